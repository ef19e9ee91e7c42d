/-! TEXT: the reference reads a tape -/
theorem dX12_readText_0 : decode cX12_readText 0 = .ok (.iconst 0, 1) := by decide +kernel
theorem dX12_readText_1 : decode cX12_readText 1 = .ok (.istore_n 2, 1) := by decide +kernel
theorem dX12_readText_2 : decode cX12_readText 2 = .ok (.iload_n 2, 1) := by decide +kernel
theorem dX12_readText_3 : decode cX12_readText 3 = .ok (.bipush 121, 2) := by decide +kernel
theorem dX12_readText_5 : decode cX12_readText 5 = .ok (.if_icmp .ge 46, 3) := by decide +kernel
theorem dX12_readText_8 : decode cX12_readText 8 = .ok (.aload_n 0, 1) := by decide +kernel
theorem dX12_readText_9 : decode cX12_readText 9 = .ok (.getfield 35, 3) := by decide +kernel
theorem dX12_readText_12 : decode cX12_readText 12 = .ok (.iload_n 2, 1) := by decide +kernel
theorem dX12_readText_13 : decode cX12_readText 13 = .ok (.iload_n 1, 1) := by decide +kernel
theorem dX12_readText_14 : decode cX12_readText 14 = .ok (.ifCond .ne 29, 3) := by decide +kernel
theorem dX12_readText_17 : decode cX12_readText 17 = .ok (.iload_n 2, 1) := by decide +kernel
theorem dX12_readText_18 : decode cX12_readText 18 = .ok (.bipush 27, 2) := by decide +kernel
theorem dX12_readText_20 : decode cX12_readText 20 = .ok (.bipush 32, 2) := by decide +kernel
theorem dX12_readText_22 : decode cX12_readText 22 = .ok (.invokestatic 115, 3) := by decide +kernel
theorem dX12_readText_25 : decode cX12_readText 25 = .ok (.ifCond .ne 14, 3) := by decide +kernel
theorem dX12_readText_28 : decode cX12_readText 28 = .ok (.iload_n 2, 1) := by decide +kernel
theorem dX12_readText_29 : decode cX12_readText 29 = .ok (.bipush 57, 2) := by decide +kernel
theorem dX12_readText_31 : decode cX12_readText 31 = .ok (.bipush 62, 2) := by decide +kernel
theorem dX12_readText_33 : decode cX12_readText 33 = .ok (.invokestatic 115, 3) := by decide +kernel
theorem dX12_readText_36 : decode cX12_readText 36 = .ok (.ifCond .eq 7, 3) := by decide +kernel
theorem dX12_readText_39 : decode cX12_readText 39 = .ok (.iconst (-1), 1) := by decide +kernel
theorem dX12_readText_40 : decode cX12_readText 40 = .ok (.goto 4, 3) := by decide +kernel
theorem dX12_readText_43 : decode cX12_readText 43 = .ok (.iconst 0, 1) := by decide +kernel
theorem dX12_readText_44 : decode cX12_readText 44 = .ok (.iastore, 1) := by decide +kernel
theorem dX12_readText_45 : decode cX12_readText 45 = .ok (.iinc 2 1, 3) := by decide +kernel
theorem dX12_readText_48 : decode cX12_readText 48 = .ok (.goto (-46), 3) := by decide +kernel
theorem dX12_readText_51 : decode cX12_readText 51 = .ok (.aload_n 0, 1) := by decide +kernel
theorem dX12_readText_52 : decode cX12_readText 52 = .ok (.iconst (-1), 1) := by decide +kernel
theorem dX12_readText_53 : decode cX12_readText 53 = .ok (.putfield 173, 3) := by decide +kernel
theorem dX12_readText_56 : decode cX12_readText 56 = .ok (.aload_n 0, 1) := by decide +kernel
theorem dX12_readText_57 : decode cX12_readText 57 = .ok (.iconst (-1), 1) := by decide +kernel
theorem dX12_readText_58 : decode cX12_readText 58 = .ok (.putfield 180, 3) := by decide +kernel
theorem dX12_readText_61 : decode cX12_readText 61 = .ok (.aload_n 0, 1) := by decide +kernel
theorem dX12_readText_62 : decode cX12_readText 62 = .ok (.iconst 0, 1) := by decide +kernel
theorem dX12_readText_63 : decode cX12_readText 63 = .ok (.putfield 123, 3) := by decide +kernel
theorem dX12_readText_66 : decode cX12_readText 66 = .ok (.aload_n 0, 1) := by decide +kernel
theorem dX12_readText_67 : decode cX12_readText 67 = .ok (.iconst 0, 1) := by decide +kernel
theorem dX12_readText_68 : decode cX12_readText 68 = .ok (.putfield 149, 3) := by decide +kernel
theorem dX12_readText_71 : decode cX12_readText 71 = .ok (.aload_n 0, 1) := by decide +kernel
theorem dX12_readText_72 : decode cX12_readText 72 = .ok (.invokevirtual 167, 3) := by decide +kernel
theorem dX12_readText_75 : decode cX12_readText 75 = .ok (.aload_n 0, 1) := by decide +kernel
theorem dX12_readText_76 : decode cX12_readText 76 = .ok (.iload_n 1, 1) := by decide +kernel
theorem dX12_readText_77 : decode cX12_readText 77 = .ok (.invokevirtual 251, 3) := by decide +kernel
theorem dX12_readText_80 : decode cX12_readText 80 = .ok (.istore_n 2, 1) := by decide +kernel
theorem dX12_readText_81 : decode cX12_readText 81 = .ok (.iload_n 2, 1) := by decide +kernel
theorem dX12_readText_82 : decode cX12_readText 82 = .ok (.ifCond .eq 49, 3) := by decide +kernel
theorem dX12_readText_85 : decode cX12_readText 85 = .ok (.iload_n 1, 1) := by decide +kernel
theorem dX12_readText_86 : decode cX12_readText 86 = .ok (.ifCond .ne 45, 3) := by decide +kernel
theorem dX12_readText_89 : decode cX12_readText 89 = .ok (.aload_n 0, 1) := by decide +kernel
theorem dX12_readText_90 : decode cX12_readText 90 = .ok (.getfield 149, 3) := by decide +kernel
theorem dX12_readText_93 : decode cX12_readText 93 = .ok (.ifCond .ne 38, 3) := by decide +kernel
theorem dX12_readText_96 : decode cX12_readText 96 = .ok (.aload_n 0, 1) := by decide +kernel
theorem dX12_readText_97 : decode cX12_readText 97 = .ok (.getfield 173, 3) := by decide +kernel
theorem dX12_readText_100 : decode cX12_readText 100 = .ok (.aload_n 0, 1) := by decide +kernel
theorem dX12_readText_101 : decode cX12_readText 101 = .ok (.getfield 35, 3) := by decide +kernel
theorem dX12_readText_104 : decode cX12_readText 104 = .ok (.iconst 0, 1) := by decide +kernel
theorem dX12_readText_105 : decode cX12_readText 105 = .ok (.iaload, 1) := by decide +kernel
theorem dX12_readText_106 : decode cX12_readText 106 = .ok (.if_icmp .ge 16, 3) := by decide +kernel
theorem dX12_readText_109 : decode cX12_readText 109 = .ok (.aload_n 0, 1) := by decide +kernel
theorem dX12_readText_110 : decode cX12_readText 110 = .ok (.getfield 180, 3) := by decide +kernel
theorem dX12_readText_113 : decode cX12_readText 113 = .ok (.aload_n 0, 1) := by decide +kernel
theorem dX12_readText_114 : decode cX12_readText 114 = .ok (.getfield 35, 3) := by decide +kernel
theorem dX12_readText_117 : decode cX12_readText 117 = .ok (.iconst 1, 1) := by decide +kernel
theorem dX12_readText_118 : decode cX12_readText 118 = .ok (.iaload, 1) := by decide +kernel
theorem dX12_readText_119 : decode cX12_readText 119 = .ok (.if_icmp .lt 12, 3) := by decide +kernel
theorem dX12_readText_122 : decode cX12_readText 122 = .ok (.aload_n 0, 1) := by decide +kernel
theorem dX12_readText_123 : decode cX12_readText 123 = .ok (.iconst 4, 1) := by decide +kernel
theorem dX12_readText_124 : decode cX12_readText 124 = .ok (.aload_n 0, 1) := by decide +kernel
theorem dX12_readText_125 : decode cX12_readText 125 = .ok (.getfield 133, 3) := by decide +kernel
theorem dX12_readText_128 : decode cX12_readText 128 = .ok (.invokevirtual 159, 3) := by decide +kernel
theorem dX12_readText_131 : decode cX12_readText 131 = .ok (.aload_n 0, 1) := by decide +kernel
theorem dX12_readText_132 : decode cX12_readText 132 = .ok (.getfield 17, 3) := by decide +kernel
theorem dX12_readText_135 : decode cX12_readText 135 = .ok (.iconst 0, 1) := by decide +kernel
theorem dX12_readText_136 : decode cX12_readText 136 = .ok (.iload_n 2, 1) := by decide +kernel
theorem dX12_readText_137 : decode cX12_readText 137 = .ok (.ifCond .eq 10, 3) := by decide +kernel
theorem dX12_readText_140 : decode cX12_readText 140 = .ok (.aload_n 0, 1) := by decide +kernel
theorem dX12_readText_141 : decode cX12_readText 141 = .ok (.getfield 149, 3) := by decide +kernel
theorem dX12_readText_144 : decode cX12_readText 144 = .ok (.goto 4, 3) := by decide +kernel
theorem dX12_readText_147 : decode cX12_readText 147 = .ok (.iconst 1, 1) := by decide +kernel
theorem dX12_readText_148 : decode cX12_readText 148 = .ok (.iastore, 1) := by decide +kernel
theorem dX12_readText_149 : decode cX12_readText 149 = .ok (.aload_n 0, 1) := by decide +kernel
theorem dX12_readText_150 : decode cX12_readText 150 = .ok (.getfield 20, 3) := by decide +kernel
theorem dX12_readText_153 : decode cX12_readText 153 = .ok (.iconst 0, 1) := by decide +kernel
theorem dX12_readText_154 : decode cX12_readText 154 = .ok (.iload_n 2, 1) := by decide +kernel
theorem dX12_readText_155 : decode cX12_readText 155 = .ok (.ifCond .ne 10, 3) := by decide +kernel
theorem dX12_readText_158 : decode cX12_readText 158 = .ok (.aload_n 0, 1) := by decide +kernel
theorem dX12_readText_159 : decode cX12_readText 159 = .ok (.getfield 146, 3) := by decide +kernel
theorem dX12_readText_162 : decode cX12_readText 162 = .ok (.goto 18, 3) := by decide +kernel
theorem dX12_readText_165 : decode cX12_readText 165 = .ok (.aload_n 0, 1) := by decide +kernel
theorem dX12_readText_166 : decode cX12_readText 166 = .ok (.getfield 149, 3) := by decide +kernel
theorem dX12_readText_169 : decode cX12_readText 169 = .ok (.ifCond .le 10, 3) := by decide +kernel
theorem dX12_readText_172 : decode cX12_readText 172 = .ok (.aload_n 0, 1) := by decide +kernel
theorem dX12_readText_173 : decode cX12_readText 173 = .ok (.getfield 152, 3) := by decide +kernel
theorem dX12_readText_176 : decode cX12_readText 176 = .ok (.goto 4, 3) := by decide +kernel
theorem dX12_readText_179 : decode cX12_readText 179 = .ok (.iconst (-1), 1) := by decide +kernel
theorem dX12_readText_180 : decode cX12_readText 180 = .ok (.iastore, 1) := by decide +kernel
theorem dX12_readText_181 : decode cX12_readText 181 = .ok (.aload_n 0, 1) := by decide +kernel
theorem dX12_readText_182 : decode cX12_readText 182 = .ok (.getfield 17, 3) := by decide +kernel
theorem dX12_readText_185 : decode cX12_readText 185 = .ok (.iconst 0, 1) := by decide +kernel
theorem dX12_readText_186 : decode cX12_readText 186 = .ok (.iaload, 1) := by decide +kernel
theorem dX12_readText_187 : decode cX12_readText 187 = .ok (.ifCond .ne 7, 3) := by decide +kernel
theorem dX12_readText_190 : decode cX12_readText 190 = .ok (.iconst 1, 1) := by decide +kernel
theorem dX12_readText_191 : decode cX12_readText 191 = .ok (.goto 4, 3) := by decide +kernel
theorem dX12_readText_194 : decode cX12_readText 194 = .ok (.iconst 0, 1) := by decide +kernel
theorem dX12_readText_195 : decode cX12_readText 195 = .ok (.ireturn, 1) := by decide +kernel
set_option maxRecDepth 20000 in
theorem tm_12_251 : tMet TB0 12 251 = some (0, M_X12_lines) := rfl
/-! TEXT: the reference reads a tape -/
theorem or_sN : ∀ d : Nat, d < 64 → ∀ v : Nat, v < 6 → ∀ j : Nat, j < 7 → ((d ||| 1 * 2 ^ v) / 2 ^ j ≠ 0 ↔ (d / 2 ^ j ≠ 0 ∨ j ≤ v)) := by decide +kernel
theorem or_s {D v j : Int} (d : 0 ≤ D ∧ D < 64) (v0 : 0 ≤ v ∧ v < 6) (j0 : 0 ≤ j ∧ j < 7) : shrZ (orZ D (shlZ 1 v)) j ≠ 0 ↔ (shrZ D j ≠ 0 ∨ j ≤ v) := by
  have e := or_sN D.toNat (by omega) v.toNat (by omega) j.toNat (by omega)
  unfold shrZ orZ shlZ
  rw [Int.toNat_natCast, Int.toNat_natCast, show (1 : Int).toNat = 1 from rfl]
  constructor
  · intro z
    rcases e.mp (fun q => z (by rw [q]; rfl)) with w | w
    · exact Or.inl (fun q => w (Int.ofNat.inj q))
    · exact Or.inr (by omega)
  · intro z q
    refine e.mpr ?_ (Int.ofNat.inj q)
    rcases z with w | w
    · exact Or.inl (fun x => w (by rw [x]; rfl))
    · exact Or.inr (by omega)
def faP (T : Int → Int) (L : Int) (n : Nat) : Prop := ((0 ≤ runD 0 T L n ∧ runD 0 T L n < 64) ∧ (0 ≤ runU 0 T L n ∧ runU 0 T L n < 64)) ∧ ((-1 ≤ faD T L n ∧ faD T L n ≤ 5) ∧ (-1 ≤ faU T L n ∧ faU T L n ≤ 5)) ∧ ∀ j : Int, 0 ≤ j → j < 7 → (shrZ (runD 0 T L n) j ≠ 0 ↔ j ≤ faD T L n) ∧ (shrZ (runU 0 T L n) j ≠ 0 ↔ j ≤ faU T L n)
theorem fa_p {T : Int → Int} {L : Int} : ∀ n : Nat, okN 0 T L n → runF 0 T L n = 0 → faP T L n := by
  intro n
  induction n with
  | zero =>
    intro _ _
    refine ⟨⟨⟨Int.le_refl 0, by show (0 : Int) < 64; omega⟩, Int.le_refl 0, by show (0 : Int) < 64; omega⟩, ⟨⟨Int.le_refl (-1), by show (-1 : Int) ≤ 5; omega⟩, Int.le_refl (-1), by show (-1 : Int) ≤ 5; omega⟩, fun j a z => ?_⟩
    have e : shrZ 0 j = 0 := by unfold shrZ; rw [show (0 : Int).toNat = 0 from rfl, Nat.zero_div]; rfl
    refine ⟨?_, ?_⟩
    · show shrZ 0 j ≠ 0 ↔ j ≤ -1
      exact ⟨fun q => absurd e q, fun q => by omega⟩
    · show shrZ 0 j ≠ 0 ↔ j ≤ -1
      exact ⟨fun q => absurd e q, fun q => by omega⟩
  | succ n ih =>
    intro ok h
    have q := okN_p ok
    have k := rn_f h
    have i := ih q.1 k.1
    obtain ⟨⟨d1, u1⟩, ⟨d2, u2⟩, i3⟩ := i
    have eD : runD 0 T L (n + 1) = ldL T L (runP 0 T L n) (runD 0 T L n) := if_pos rfl
    have eU : runU 0 T L (n + 1) = luL T L (runP 0 T L n) (runU 0 T L n) := if_pos rfl
    have eF : faD T L (n + 1) = fdL T L (runP 0 T L n) (faD T L n) := rfl
    have eG : faU T L (n + 1) = fpL T L (runP 0 T L n) (faU T L n) := rfl
    unfold faP
    rw [eD, eU, eF, eG]
    generalize runP 0 T L n = p at *
    by_cases w : tkW T L p = 491395638644
    · have K := kn_0rivet (T := T) (C := runC 0 T L n) (L := L) (p := p) w
      have f := k.2.2.2
      rw [K.2.1, K.2.2.1] at f
      have v1 := ff_in f
      have v2 := ff_in v1.2
      have b1 := v1.1
      have b2 := v2.1
      have s1 := shlZ_b 1 (tkV T L (tkE T L p))
      have s2 := shlZ_b 1 (tkV T L (tkE T L (tkE T L p)))
      have o1 := orZ_b (runD 0 T L n) (shlZ 1 (tkV T L (tkE T L p)))
      have o2 := orZ_b (runU 0 T L n) (shlZ 1 (tkV T L (tkE T L (tkE T L p))))
      have l1 := (ld_r (D := runD 0 T L n) (U := runU 0 T L n) w).1
      have l2 := (ld_r (D := runD 0 T L n) (U := runU 0 T L n) w).2
      rw [if_pos (show (tkV T L (tkE T L p)) < 6 ∧ (tkV T L (tkE T L (tkE T L p))) < 6 by omega)] at l1 l2
      rw [l1, l2, show fdL T L p (faD T L n) = max (faD T L n) (tkV T L (tkE T L p)) from if_pos w, show fpL T L p (faU T L n) = max (faU T L n) (tkV T L (tkE T L (tkE T L p))) from if_pos w]
      refine ⟨⟨⟨by omega, by omega⟩, by omega, by omega⟩, ⟨⟨by omega, by omega⟩, by omega, by omega⟩, fun j a z => ?_⟩
      have e1 := or_s (D := runD 0 T L n) (v := (tkV T L (tkE T L p))) (j := j) d1 (by omega) ⟨a, z⟩
      have e2 := or_s (D := runU 0 T L n) (v := (tkV T L (tkE T L (tkE T L p)))) (j := j) u1 (by omega) ⟨a, z⟩
      have e3 := i3 j a z
      refine ⟨?_, ?_⟩
      · rw [e1, e3.1]; omega
      · rw [e2, e3.2]; omega
    · have l := ld_o (D := runD 0 T L n) (U := runU 0 T L n) w
      rw [l.1, l.2, show fdL T L p (faD T L n) = faD T L n from if_neg w, show fpL T L p (faU T L n) = faU T L n from if_neg w]
      exact ⟨⟨d1, u1⟩, ⟨d2, u2⟩, i3⟩
theorem ms_fa {T : Int → Int} {L : Int} {n : Nat} (ok : okN 0 T L n) (f : runF 0 T L n = 0) : msP 0 T L n ↔ (runC 0 T L n 0 ≤ faD T L n ∨ runC 0 T L n 1 ≤ faU T L n) := by
  have w := rn_wf n ok
  have w1 : 0 ≤ runC 0 T L n 0 ∧ runC 0 T L n 0 ≤ 6 := w.1
  have w2 : 0 ≤ runC 0 T L n 1 ∧ runC 0 T L n 1 ≤ 6 := w.2.1
  have e1 := ((fa_p n ok f).2.2 (runC 0 T L n 0) w1.1 (by omega)).1
  have e2 := ((fa_p n ok f).2.2 (runC 0 T L n 1) w2.1 (by omega)).2
  unfold msP
  constructor
  · rintro ⟨_, z | z⟩
    · exact Or.inl (e1.mp z)
    · exact Or.inr (e2.mp z)
  · rintro (z | z)
    · exact ⟨rfl, Or.inl (e1.mpr z)⟩
    · exact ⟨rfl, Or.inr (e2.mpr z)⟩
def rtO (h : mH) (m : Nat) (s : Int) (T : Int → Int) (L : Int) (v : Int) : Prop := (∃ n, okN s T L n ∧ tkK T L (runP s T L n) = 3 ∧ (rI h (m + 3) 0 = feF s T L n ∧ rI h (m + 4) 0 = feQ s T L n) ∧ rfC h m (runC s T L n) ∧ ((v = 1 ∧ feF s T L n = 0) ∨ (v = 0 ∧ feF s T L n ≠ 0))) ∨ (v = 0 ∧ ∃ n, okN s T L n ∧ tkK T L (runP s T L n) ≠ 3 ∧ ¬ lnA s T L (runP s T L n) ∧ rI h (m + 3) 0 = 1 ∧ rI h (m + 4) 0 = lnX s T L (runP s T L n))
theorem lx_b {T : Int → Int} {L s p : Int} (l : 0 ≤ p ∧ p ≤ L) : 0 ≤ lnX s T L p ∧ lnX s T L p ≤ L := by
  have t := tk_b (T := T) l.1 l.2
  have t2 := tk_b (T := T) (show 0 ≤ tkE T L p by omega) (show tkE T L p ≤ L by omega)
  have nb := np_b (s := s) (T := T) l.1 l.2
  have xb : ∀ (bs : List (Int × Int)) (p : Int), 0 ≤ p → p ≤ L → 0 ≤ xpL T L bs p ∧ xpL T L bs p ≤ L := by
    intro bs
    induction bs with
    | nil => intro p a z; have t := tk_b (T := T) a z; show 0 ≤ tkS T L p ∧ tkS T L p ≤ L; omega
    | cons x bs ih =>
      intro p a z
      have t := tk_b (T := T) a z
      by_cases k : tkK T L p = 1
      · rw [xp_y k]; exact ih _ (by omega) (by omega)
      · rw [xp_n k]; omega
  unfold lnX
  split
  · split
    · exact xb _ _ (by omega) (by omega)
    · omega
  · omega
set_option maxHeartbeats 4000000 in
theorem zp_X12_readText_0 {ad : mA} {dd : Nat} {h : mH} {Q : mQ} {m : Nat} {T : Int → Int} {L : Int} (hk : rk h m) (HT : rfT h m T L)    (kq : ∀ v : Int, (v = 0 ∨ v = 1) → ∀ h1, frm (fun a j => (a = m ∧ (j = 9 ∨ (11 ≤ j ∧ j ≤ 17) ∨ (20 ≤ j ∧ j ≤ 22))) ∨ a = m + 9 ∨ a = m + 10 ∨ ((a = m + 3 ∨ a = m + 4) ∧ j = 0)) h h1 → (rtO h1 m 0 T L v) → Q (some (.int (zI v))) h1) : mCal TB0 ad (dd + 8) M_X12_readText [.ref m, .int (zI 0)] h 0 0 Q := by
  refine ⟨Nat.le_of_ble_eq_true rfl, ?_⟩
  show mEv TB0 ad M_X12_readText (dd + 8) (0, 0) (mCal TB0 ad (dd + 7)) (fun v h' z => z.1 = 0 ∧ Q v h') 0 [some (.ref m), some (.int (zI 0)), none] [] h (0, 0)
  have FR0 : frm (fun a j => (a = m ∧ (j = 9 ∨ (11 ≤ j ∧ j ≤ 17) ∨ (20 ≤ j ∧ j ≤ 22))) ∨ a = m + 9 ∨ a = m + 10 ∨ ((a = m + 3 ∨ a = m + 4) ∧ j = 0)) h h := frm_0 h
  have w1 := HT.1
  refine z_iconst (0) dX12_readText_0 rfl ?_
  refine e_istore_n (L' := [_, _, _]) dX12_readText_1 (Nat.le_of_ble_eq_true rfl) rfl ?_
  have lp1 : ∀ (n1 : Nat) (i : Int) (h1 : mH), (121 - i).toNat = n1 → (rk h1 m) → (rfT h1 m T L) → (frm (fun a j => (a = m ∧ (j = 9 ∨ (11 ≤ j ∧ j ≤ 17) ∨ (20 ≤ j ∧ j ≤ 22))) ∨ a = m + 9 ∨ a = m + 10 ∨ ((a = m + 3 ∨ a = m + 4) ∧ j = 0)) h h1) → (0 ≤ i ∧ i ≤ 121) → (∀ k : Int, 0 ≤ k → k < i → rI h1 (m + 9) k = ini0 0 k) → mEv TB0 ad M_X12_readText (dd + 8) (0, 0) (mCal TB0 ad (dd + 7)) (fun v h' z => z.1 = 0 ∧ Q v h') 2 [some (.ref m), some (.int (zI 0)), some (.int (zI i))] [] h1 (0, 0) := by
    intro n1
    induction n1 using Nat.strongRecOn with
    | ind n1 ih1 =>
    intro i h1 hn1 k2 H3 FR4 I1 I2
    refine e_iload_n dX12_readText_2 rfl ?_
    refine z_bipush (121) dX12_readText_3 rfl ?_
    refine z_icmp_ge 51 dX12_readText_5 rfl ⟨by omega, by omega⟩ ⟨by omega, by omega⟩ (fun c5 => ?_) (fun c5 => ?_)
    · skip
      have RC : rfC h1 m (ini0 0) := fun k a z => I2 k a (by omega)
      refine e_aload_n dX12_readText_51 rfl ?_
      refine z_iconst (-1) dX12_readText_52 rfl ?_
      refine z_put dX12_readText_53 tf_12_173 (rk_s k2) rfl (Or.inl rfl) (fun h6 e7 => ?_)
      have f8 := frm_1 e7
      have k9 := rk_q (frm_s f8) k2
      have H10 := rfT_c f8 (fun a k q => by omega) H3
      have H11 := rfC_c f8 (fun a k q => by omega) RC
      have FR12 := frm_t FR4 (frm_m (S' := (fun a j => (a = m ∧ (j = 9 ∨ (11 ≤ j ∧ j ≤ 17) ∨ (20 ≤ j ∧ j ≤ 22))) ∨ a = m + 9 ∨ a = m + 10 ∨ ((a = m + 3 ∨ a = m + 4) ∧ j = 0))) f8 (fun a k q => by omega))
      refine e_aload_n dX12_readText_56 rfl ?_
      refine z_iconst (-1) dX12_readText_57 rfl ?_
      refine z_put dX12_readText_58 tf_12_180 (rk_s k9) rfl (Or.inl rfl) (fun h13 e14 => ?_)
      have f15 := frm_1 e14
      have k16 := rk_q (frm_s f15) k9
      have H17 := rfT_c f15 (fun a k q => by omega) H10
      have H18 := rfC_c f15 (fun a k q => by omega) H11
      have FR19 := frm_t FR12 (frm_m (S' := (fun a j => (a = m ∧ (j = 9 ∨ (11 ≤ j ∧ j ≤ 17) ∨ (20 ≤ j ∧ j ≤ 22))) ∨ a = m + 9 ∨ a = m + 10 ∨ ((a = m + 3 ∨ a = m + 4) ∧ j = 0))) f15 (fun a k q => by omega))
      refine e_aload_n dX12_readText_61 rfl ?_
      refine z_iconst (0) dX12_readText_62 rfl ?_
      refine z_put dX12_readText_63 tf_12_123 (rk_s k16) rfl (Or.inl rfl) (fun h20 e21 => ?_)
      have f22 := frm_1 e21
      have k23 := rk_q (frm_s f22) k16
      have H24 := rfT_c f22 (fun a k q => by omega) H17
      have H25 := rfC_c f22 (fun a k q => by omega) H18
      have FR26 := frm_t FR19 (frm_m (S' := (fun a j => (a = m ∧ (j = 9 ∨ (11 ≤ j ∧ j ≤ 17) ∨ (20 ≤ j ∧ j ≤ 22))) ∨ a = m + 9 ∨ a = m + 10 ∨ ((a = m + 3 ∨ a = m + 4) ∧ j = 0))) f22 (fun a k q => by omega))
      refine e_aload_n dX12_readText_66 rfl ?_
      refine z_iconst (0) dX12_readText_67 rfl ?_
      refine z_put dX12_readText_68 tf_12_149 (rk_s k23) rfl (Or.inl rfl) (fun h27 e28 => ?_)
      have f29 := frm_1 e28
      have k30 := rk_q (frm_s f29) k23
      have H31 := rfT_c f29 (fun a k q => by omega) H24
      have H32 := rfC_c f29 (fun a k q => by omega) H25
      have FR33 := frm_t FR26 (frm_m (S' := (fun a j => (a = m ∧ (j = 9 ∨ (11 ≤ j ∧ j ≤ 17) ∨ (20 ≤ j ∧ j ≤ 22))) ∨ a = m + 9 ∨ a = m + 10 ∨ ((a = m + 3 ∨ a = m + 4) ∧ j = 0))) f29 (fun a k q => by omega))
      have RF : rfF h27 m 0 (-1) := ⟨(rI_eq e28 ⟨by omega, by omega⟩), fun z => absurd rfl z, by omega⟩
      have PA72 : rI h27 m 9 = 0 := ((frm_r f29 (by omega)).trans (rI_eq e21 ⟨by omega, by omega⟩))
      have RD : rfD h27 m (-1) (-1) := ⟨(((frm_r f29 (by omega)).trans ((frm_r f22 (by omega)).trans (frm_r f15 (by omega)))).trans (rI_eq e7 ⟨by omega, by omega⟩)), (((frm_r f29 (by omega)).trans (frm_r f22 (by omega))).trans (rI_eq e14 ⟨by omega, by omega⟩)), by omega, by omega⟩
      refine e_aload_n dX12_readText_71 rfl ?_
      refine e_callV [] dX12_readText_72 tm_12_167 rfl (Nat.le_of_ble_eq_true rfl) (rk_s k30) (Nat.le_of_ble_eq_true rfl) (Nat.le_refl _) (Nat.le_refl _) rfl (zp_X12_token k30 H31 0 PA72 (by omega) (fun  h34 f35 p36 => ?_))
      have k37 := rk_q (frm_s f35) k30
      have H38 := rfT_c f35 (fun a k q => by omega) H31
      have H39 := rfC_c f35 (fun a k q => by omega) H32
      have H40 := rfF_c f35 (fun a k q => by omega) RF
      have H41 := rfD_c f35 (fun a k q => by omega) RD
      have FR42 := frm_t FR33 (frm_m (S' := (fun a j => (a = m ∧ (j = 9 ∨ (11 ≤ j ∧ j ≤ 17) ∨ (20 ≤ j ∧ j ≤ 22))) ∨ a = m + 9 ∨ a = m + 10 ∨ ((a = m + 3 ∨ a = m + 4) ∧ j = 0))) f35 (fun a k q => by omega))
      refine e_aload_n dX12_readText_75 rfl ?_
      refine e_iload_n dX12_readText_76 rfl ?_
      refine e_callV [.int _] dX12_readText_77 tm_12_251 rfl (Nat.le_of_ble_eq_true rfl) (rk_s k37) (Nat.le_of_ble_eq_true rfl) (Nat.le_refl _) (Nat.le_refl _) rfl (zp_X12_lines_0 k37 H38 p36 H40 H39 H41 (fun v43 p44 h45 f46 p47 => ?_))
      have k48 := rk_q (frm_s f46) k37
      have H49 := rfT_c f46 (fun a k q => by omega) H38
      have FR50 := frm_t FR42 (frm_m (S' := (fun a j => (a = m ∧ (j = 9 ∨ (11 ≤ j ∧ j ≤ 17) ∨ (20 ≤ j ∧ j ≤ 22))) ∨ a = m + 9 ∨ a = m + 10 ∨ ((a = m + 3 ∨ a = m + 4) ∧ j = 0))) f46 (fun a k q => by omega))
      skip
      refine e_istore_n (L' := [_, _, _]) dX12_readText_80 (Nat.le_of_ble_eq_true rfl) rfl ?_
      refine e_iload_n dX12_readText_81 rfl ?_
      refine z_if_eq 131 dX12_readText_82 rfl ⟨by omega, by omega⟩ (fun c51 => ?_) (fun c51 => ?_)
      · skip
        obtain ⟨n, OK, k3, A0, X0⟩ := lso_0 p47 (by omega)
        have ob := okN_b w1.1 n OK
        have lb := lx_b (s := 0) (T := T) (L := L) ⟨ob.1, ob.2.1⟩
        skip
        refine e_aload_n dX12_readText_131 rfl ?_
        refine e_get (.ref (m + 3)) dX12_readText_132 tf_12_17 (rk_s k48) (congrArg va_rf (rk_r3 k48)) ?_
        refine z_iconst (0) dX12_readText_135 rfl ?_
        refine e_iload_n dX12_readText_136 rfl ?_
        refine z_if_eq 147 dX12_readText_137 rfl ⟨by omega, by omega⟩ (fun c52 => ?_) (fun c52 => ?_)
        · skip
          refine z_iconst (1) dX12_readText_147 rfl ?_
          refine z_ist dX12_readText_148 (rk_a3 k48) (by decide) (by omega) (by omega) (fun h53 e54 => ?_)
          have f55 := frm_1 e54
          have k56 := rk_q (frm_s f55) k48
          have H57 := rfT_c f55 (fun a k q => by omega) H49
          have FR58 := frm_t FR50 (frm_m (S' := (fun a j => (a = m ∧ (j = 9 ∨ (11 ≤ j ∧ j ≤ 17) ∨ (20 ≤ j ∧ j ≤ 22))) ∨ a = m + 9 ∨ a = m + 10 ∨ ((a = m + 3 ∨ a = m + 4) ∧ j = 0))) f55 (fun a k q => by omega))
          refine e_aload_n dX12_readText_149 rfl ?_
          refine e_get (.ref (m + 4)) dX12_readText_150 tf_12_20 (rk_s k56) (congrArg va_rf (rk_r4 k56)) ?_
          refine z_iconst (0) dX12_readText_153 rfl ?_
          refine e_iload_n dX12_readText_154 rfl ?_
          refine z_if_ne 165 dX12_readText_155 rfl ⟨by omega, by omega⟩ (fun c59 => ?_) (fun c59 => ?_)
          · exfalso; omega
          · skip
            refine e_aload_n dX12_readText_158 rfl ?_
            refine z_get (lnX 0 T L (runP 0 T L n)) dX12_readText_159 tf_12_146 (rk_s k56) (Or.inl rfl) (((frm_r f55 (by omega))).trans X0) ?_
            refine e_goto 180 dX12_readText_162 rfl ?_
            refine z_ist dX12_readText_180 (rk_a4 k56) (by decide) (by omega) (by omega) (fun h60 e61 => ?_)
            have f62 := frm_1 e61
            have k63 := rk_q (frm_s f62) k56
            have H64 := rfT_c f62 (fun a k q => by omega) H57
            have FR65 := frm_t FR58 (frm_m (S' := (fun a j => (a = m ∧ (j = 9 ∨ (11 ≤ j ∧ j ≤ 17) ∨ (20 ≤ j ∧ j ≤ 22))) ∨ a = m + 9 ∨ a = m + 10 ∨ ((a = m + 3 ∨ a = m + 4) ∧ j = 0))) f62 (fun a k q => by omega))
            refine e_aload_n dX12_readText_181 rfl ?_
            refine e_get (.ref (m + 3)) dX12_readText_182 tf_12_17 (rk_s k63) (congrArg va_rf (rk_r3 k63)) ?_
            refine z_iconst (0) dX12_readText_185 rfl ?_
            refine z_ild 1 dX12_readText_186 (rk_a3 k63) (by decide) (by omega) (by omega) ((frm_r f62 (by omega)).trans (rI_eq e54 ⟨by omega, by omega⟩)) ?_
            refine z_if_ne 194 dX12_readText_187 rfl ⟨by omega, by omega⟩ (fun c66 => ?_) (fun c66 => ?_)
            · skip
              refine z_iconst (0) dX12_readText_194 rfl ?_
              refine z_bret dX12_readText_195 rfl (Or.inl rfl) ⟨rfl, ?_⟩
              exact kq 0 (Or.inl rfl) _ FR65 (Or.inr ⟨rfl, n, OK, k3, A0, ((frm_r f62 (by omega)).trans (rI_eq e54 ⟨by omega, by omega⟩)), (rI_eq e61 ⟨by omega, by omega⟩)⟩)
            · exfalso; omega
        · exfalso; omega
      · skip
        obtain ⟨n, OK, k3, P1, F1, N1, C1, D0⟩ := lso_1 p47 (by omega)
        have p1 := P1.1
        have nb1 := N1.1
        have nb2 := N1.2.1
        have tz := tk_b (T := T) p1.1 p1.2
        have rq := rn_q (s := 0) (T := T) (L := L) n
        have D1 := D0 rfl
        refine e_iload_n dX12_readText_85 rfl ?_
        refine z_if_ne 131 dX12_readText_86 rfl ⟨by omega, by omega⟩ (fun c67 => ?_) (fun c67 => ?_)
        · exfalso; omega
        · skip
          refine e_aload_n dX12_readText_89 rfl ?_
          refine z_get (runF 0 T L n) dX12_readText_90 tf_12_149 (rk_s k48) (Or.inl rfl) F1.1 ?_
          have y68 := F1.2.2
          refine z_if_ne 131 dX12_readText_93 rfl ⟨by omega, by omega⟩ (fun c69 => ?_) (fun c69 => ?_)
          · skip
            have FE := fe_n (s := 0) (T := T) (L := L) (n := n) (fun z => by have mf := (ms_fa OK z.2).mp z.1; omega)
            refine e_aload_n dX12_readText_131 rfl ?_
            refine e_get (.ref (m + 3)) dX12_readText_132 tf_12_17 (rk_s k48) (congrArg va_rf (rk_r3 k48)) ?_
            refine z_iconst (0) dX12_readText_135 rfl ?_
            refine e_iload_n dX12_readText_136 rfl ?_
            refine z_if_eq 147 dX12_readText_137 rfl ⟨by omega, by omega⟩ (fun c70 => ?_) (fun c70 => ?_)
            · exfalso; omega
            · skip
              refine e_aload_n dX12_readText_140 rfl ?_
              refine z_get (runF 0 T L n) dX12_readText_141 tf_12_149 (rk_s k48) (Or.inl rfl) F1.1 ?_
              have y71 := F1.2.2
              refine e_goto 148 dX12_readText_144 rfl ?_
              refine z_ist dX12_readText_148 (rk_a3 k48) (by decide) (by omega) (by omega) (fun h72 e73 => ?_)
              have f74 := frm_1 e73
              have k75 := rk_q (frm_s f74) k48
              have H76 := rfT_c f74 (fun a k q => by omega) H49
              have H77 := rfP_c f74 (fun a k q => by omega) P1
              have H78 := rfF_c f74 (fun a k q => by omega) F1
              have H79 := rfC_c f74 (fun a k q => by omega) C1
              have H80 := rfD_c f74 (fun a k q => by omega) D1
              have FR81 := frm_t FR50 (frm_m (S' := (fun a j => (a = m ∧ (j = 9 ∨ (11 ≤ j ∧ j ≤ 17) ∨ (20 ≤ j ∧ j ≤ 22))) ∨ a = m + 9 ∨ a = m + 10 ∨ ((a = m + 3 ∨ a = m + 4) ∧ j = 0))) f74 (fun a k q => by omega))
              refine e_aload_n dX12_readText_149 rfl ?_
              refine e_get (.ref (m + 4)) dX12_readText_150 tf_12_20 (rk_s k75) (congrArg va_rf (rk_r4 k75)) ?_
              refine z_iconst (0) dX12_readText_153 rfl ?_
              refine e_iload_n dX12_readText_154 rfl ?_
              refine z_if_ne 165 dX12_readText_155 rfl ⟨by omega, by omega⟩ (fun c82 => ?_) (fun c82 => ?_)
              · skip
                refine e_aload_n dX12_readText_165 rfl ?_
                refine z_get (runF 0 T L n) dX12_readText_166 tf_12_149 (rk_s k75) (Or.inl rfl) H78.1 ?_
                have y83 := H78.2.2
                refine z_if_le 179 dX12_readText_169 rfl ⟨by omega, by omega⟩ (fun c84 => ?_) (fun c84 => ?_)
                · skip
                  refine z_iconst (-1) dX12_readText_179 rfl ?_
                  refine z_ist dX12_readText_180 (rk_a4 k75) (by decide) (by omega) (by omega) (fun h85 e86 => ?_)
                  have f87 := frm_1 e86
                  have k88 := rk_q (frm_s f87) k75
                  have H89 := rfT_c f87 (fun a k q => by omega) H76
                  have H90 := rfP_c f87 (fun a k q => by omega) H77
                  have H91 := rfF_c f87 (fun a k q => by omega) H78
                  have H92 := rfC_c f87 (fun a k q => by omega) H79
                  have H93 := rfD_c f87 (fun a k q => by omega) H80
                  have FR94 := frm_t FR81 (frm_m (S' := (fun a j => (a = m ∧ (j = 9 ∨ (11 ≤ j ∧ j ≤ 17) ∨ (20 ≤ j ∧ j ≤ 22))) ∨ a = m + 9 ∨ a = m + 10 ∨ ((a = m + 3 ∨ a = m + 4) ∧ j = 0))) f87 (fun a k q => by omega))
                  refine e_aload_n dX12_readText_181 rfl ?_
                  refine e_get (.ref (m + 3)) dX12_readText_182 tf_12_17 (rk_s k88) (congrArg va_rf (rk_r3 k88)) ?_
                  refine z_iconst (0) dX12_readText_185 rfl ?_
                  refine z_ild (runF 0 T L n) dX12_readText_186 (rk_a3 k88) (by decide) (by omega) (by omega) ((frm_r f87 (by omega)).trans (rI_eq e73 ⟨by omega, by omega⟩)) ?_
                  refine z_if_ne 194 dX12_readText_187 rfl ⟨by omega, by omega⟩ (fun c95 => ?_) (fun c95 => ?_)
                  · skip
                    refine z_iconst (0) dX12_readText_194 rfl ?_
                    refine z_bret dX12_readText_195 rfl (Or.inl rfl) ⟨rfl, ?_⟩
                    exact kq 0 (Or.inl rfl) _ FR94 (Or.inl ⟨n, OK, k3, ⟨(((frm_r f87 (by omega)).trans (rI_eq e73 ⟨by omega, by omega⟩))).trans (by omega), ((rI_eq e86 ⟨by omega, by omega⟩)).trans (by omega)⟩, H92, Or.inr ⟨rfl, by omega⟩⟩)
                  · skip
                    refine z_iconst (1) dX12_readText_190 rfl ?_
                    refine e_goto 195 dX12_readText_191 rfl ?_
                    refine z_bret dX12_readText_195 rfl (Or.inr rfl) ⟨rfl, ?_⟩
                    exact kq 1 (Or.inr rfl) _ FR94 (Or.inl ⟨n, OK, k3, ⟨(((frm_r f87 (by omega)).trans (rI_eq e73 ⟨by omega, by omega⟩))).trans (by omega), ((rI_eq e86 ⟨by omega, by omega⟩)).trans (by omega)⟩, H92, Or.inl ⟨rfl, by omega⟩⟩)
                · skip
                  refine e_aload_n dX12_readText_172 rfl ?_
                  refine z_get (runQ 0 T L n) dX12_readText_173 tf_12_152 (rk_s k75) (Or.inl rfl) (H78.2.1 (by omega)) ?_
                  refine e_goto 180 dX12_readText_176 rfl ?_
                  refine z_ist dX12_readText_180 (rk_a4 k75) (by decide) (by omega) (by omega) (fun h96 e97 => ?_)
                  have f98 := frm_1 e97
                  have k99 := rk_q (frm_s f98) k75
                  have H100 := rfT_c f98 (fun a k q => by omega) H76
                  have H101 := rfP_c f98 (fun a k q => by omega) H77
                  have H102 := rfF_c f98 (fun a k q => by omega) H78
                  have H103 := rfC_c f98 (fun a k q => by omega) H79
                  have H104 := rfD_c f98 (fun a k q => by omega) H80
                  have FR105 := frm_t FR81 (frm_m (S' := (fun a j => (a = m ∧ (j = 9 ∨ (11 ≤ j ∧ j ≤ 17) ∨ (20 ≤ j ∧ j ≤ 22))) ∨ a = m + 9 ∨ a = m + 10 ∨ ((a = m + 3 ∨ a = m + 4) ∧ j = 0))) f98 (fun a k q => by omega))
                  refine e_aload_n dX12_readText_181 rfl ?_
                  refine e_get (.ref (m + 3)) dX12_readText_182 tf_12_17 (rk_s k99) (congrArg va_rf (rk_r3 k99)) ?_
                  refine z_iconst (0) dX12_readText_185 rfl ?_
                  refine z_ild (runF 0 T L n) dX12_readText_186 (rk_a3 k99) (by decide) (by omega) (by omega) ((frm_r f98 (by omega)).trans (rI_eq e73 ⟨by omega, by omega⟩)) ?_
                  refine z_if_ne 194 dX12_readText_187 rfl ⟨by omega, by omega⟩ (fun c106 => ?_) (fun c106 => ?_)
                  · skip
                    refine z_iconst (0) dX12_readText_194 rfl ?_
                    refine z_bret dX12_readText_195 rfl (Or.inl rfl) ⟨rfl, ?_⟩
                    exact kq 0 (Or.inl rfl) _ FR105 (Or.inl ⟨n, OK, k3, ⟨(((frm_r f98 (by omega)).trans (rI_eq e73 ⟨by omega, by omega⟩))).trans (by omega), ((rI_eq e97 ⟨by omega, by omega⟩)).trans (by omega)⟩, H103, Or.inr ⟨rfl, by omega⟩⟩)
                  · skip
                    refine z_iconst (1) dX12_readText_190 rfl ?_
                    refine e_goto 195 dX12_readText_191 rfl ?_
                    refine z_bret dX12_readText_195 rfl (Or.inr rfl) ⟨rfl, ?_⟩
                    exact kq 1 (Or.inr rfl) _ FR105 (Or.inl ⟨n, OK, k3, ⟨(((frm_r f98 (by omega)).trans (rI_eq e73 ⟨by omega, by omega⟩))).trans (by omega), ((rI_eq e97 ⟨by omega, by omega⟩)).trans (by omega)⟩, H103, Or.inl ⟨rfl, by omega⟩⟩)
              · exfalso; omega
          · skip
            refine e_aload_n dX12_readText_96 rfl ?_
            refine z_get (faD T L n) dX12_readText_97 tf_12_173 (rk_s k48) (Or.inl rfl) D1.1 ?_
            have y107 := D1.2.2
            refine e_aload_n dX12_readText_100 rfl ?_
            refine e_get (.ref (m + 9)) dX12_readText_101 tf_12_35 (rk_s k48) (congrArg va_rf (rk_r9 k48)) ?_
            refine z_iconst (0) dX12_readText_104 rfl ?_
            refine z_ild ((runC 0 T L n) 0) dX12_readText_105 (rk_a9 k48) (by decide) (by omega) (by omega) (C1 0 (by omega) (by omega)) ?_
            have y108 := rI_r (C1 0 (by omega) (by omega))
            refine z_icmp_ge 122 dX12_readText_106 rfl ⟨by omega, by omega⟩ ⟨by omega, by omega⟩ (fun c109 => ?_) (fun c109 => ?_)
            · skip
              refine e_aload_n dX12_readText_122 rfl ?_
              refine z_iconst (4) dX12_readText_123 rfl ?_
              refine e_aload_n dX12_readText_124 rfl ?_
              refine z_get (tkS T L (runP 0 T L n)) dX12_readText_125 tf_12_133 (rk_s k48) (Or.inl rfl) P1.2.2.2.1 ?_
              have y110 := tk_b (T := T) P1.1.1 P1.1.2
              have y111 := P1.1
              have y112 := ks_p (tkK T L (runP 0 T L n))
              refine e_callV [.int _, .int _] dX12_readText_128 tm_12_159 rfl (Nat.le_of_ble_eq_true rfl) (rk_s k48) (Nat.le_of_ble_eq_true rfl) (Nat.le_refl _) (Nat.le_refl _) rfl (zp_X12_later k48 F1 4 ⟨by omega, by omega⟩ (tkS T L (runP 0 T L n)) ⟨by omega, by omega⟩ (by omega) N1.2.2 N1.2.1 (fun  h113 f114 p115 => ?_))
              have k116 := rk_q (frm_s f114) k48
              have H117 := rfT_c f114 (fun a k q => by omega) H49
              have H118 := rfP_c f114 (fun a k q => by omega) P1
              have H119 := rfC_c f114 (fun a k q => by omega) C1
              have H120 := rfD_c f114 (fun a k q => by omega) D1
              have FR121 := frm_t FR50 (frm_m (S' := (fun a j => (a = m ∧ (j = 9 ∨ (11 ≤ j ∧ j ≤ 17) ∨ (20 ≤ j ∧ j ≤ 22))) ∨ a = m + 9 ∨ a = m + 10 ∨ ((a = m + 3 ∨ a = m + 4) ∧ j = 0))) f114 (fun a k q => by omega))
              have FE := fe_y (s := 0) (T := T) (L := L) (n := n) ((ms_fa OK (by omega)).mpr (by omega))
              have NT := nt_y (c := True) (k := 4) (s := L) (f := runF 0 T L n) (q := runQ 0 T L n) trivial (by omega)
              have LS : tkS T L (runP 0 T L n) = L := by omega
              have NS : ntQ True (tkS T L (runP 0 T L n)) (runF 0 T L n) (runQ 0 T L n) = L := by rw [LS]; exact NT.2 -- tkS T L (runP 0 T L n) = L by omega] at p115
              refine e_aload_n dX12_readText_131 rfl ?_
              refine e_get (.ref (m + 3)) dX12_readText_132 tf_12_17 (rk_s k116) (congrArg va_rf (rk_r3 k116)) ?_
              refine z_iconst (0) dX12_readText_135 rfl ?_
              refine e_iload_n dX12_readText_136 rfl ?_
              refine z_if_eq 147 dX12_readText_137 rfl ⟨by omega, by omega⟩ (fun c122 => ?_) (fun c122 => ?_)
              · exfalso; omega
              · skip
                refine e_aload_n dX12_readText_140 rfl ?_
                refine z_get (ntF True 4 (runF 0 T L n)) dX12_readText_141 tf_12_149 (rk_s k116) (Or.inl rfl) p115.1 ?_
                have y123 := p115.2.2
                refine e_goto 148 dX12_readText_144 rfl ?_
                refine z_ist dX12_readText_148 (rk_a3 k116) (by decide) (by omega) (by omega) (fun h124 e125 => ?_)
                have f126 := frm_1 e125
                have k127 := rk_q (frm_s f126) k116
                have H128 := rfT_c f126 (fun a k q => by omega) H117
                have H129 := rfP_c f126 (fun a k q => by omega) H118
                have H130 := rfC_c f126 (fun a k q => by omega) H119
                have H131 := rfD_c f126 (fun a k q => by omega) H120
                have H132 := rfF_c f126 (fun a k q => by omega) p115
                have FR133 := frm_t FR121 (frm_m (S' := (fun a j => (a = m ∧ (j = 9 ∨ (11 ≤ j ∧ j ≤ 17) ∨ (20 ≤ j ∧ j ≤ 22))) ∨ a = m + 9 ∨ a = m + 10 ∨ ((a = m + 3 ∨ a = m + 4) ∧ j = 0))) f126 (fun a k q => by omega))
                refine e_aload_n dX12_readText_149 rfl ?_
                refine e_get (.ref (m + 4)) dX12_readText_150 tf_12_20 (rk_s k127) (congrArg va_rf (rk_r4 k127)) ?_
                refine z_iconst (0) dX12_readText_153 rfl ?_
                refine e_iload_n dX12_readText_154 rfl ?_
                refine z_if_ne 165 dX12_readText_155 rfl ⟨by omega, by omega⟩ (fun c134 => ?_) (fun c134 => ?_)
                · skip
                  refine e_aload_n dX12_readText_165 rfl ?_
                  refine z_get (ntF True 4 (runF 0 T L n)) dX12_readText_166 tf_12_149 (rk_s k127) (Or.inl rfl) H132.1 ?_
                  have y135 := H132.2.2
                  refine z_if_le 179 dX12_readText_169 rfl ⟨by omega, by omega⟩ (fun c136 => ?_) (fun c136 => ?_)
                  · skip
                    refine z_iconst (-1) dX12_readText_179 rfl ?_
                    refine z_ist dX12_readText_180 (rk_a4 k127) (by decide) (by omega) (by omega) (fun h137 e138 => ?_)
                    have f139 := frm_1 e138
                    have k140 := rk_q (frm_s f139) k127
                    have H141 := rfT_c f139 (fun a k q => by omega) H128
                    have H142 := rfP_c f139 (fun a k q => by omega) H129
                    have H143 := rfC_c f139 (fun a k q => by omega) H130
                    have H144 := rfD_c f139 (fun a k q => by omega) H131
                    have H145 := rfF_c f139 (fun a k q => by omega) H132
                    have FR146 := frm_t FR133 (frm_m (S' := (fun a j => (a = m ∧ (j = 9 ∨ (11 ≤ j ∧ j ≤ 17) ∨ (20 ≤ j ∧ j ≤ 22))) ∨ a = m + 9 ∨ a = m + 10 ∨ ((a = m + 3 ∨ a = m + 4) ∧ j = 0))) f139 (fun a k q => by omega))
                    refine e_aload_n dX12_readText_181 rfl ?_
                    refine e_get (.ref (m + 3)) dX12_readText_182 tf_12_17 (rk_s k140) (congrArg va_rf (rk_r3 k140)) ?_
                    refine z_iconst (0) dX12_readText_185 rfl ?_
                    refine z_ild (ntF True 4 (runF 0 T L n)) dX12_readText_186 (rk_a3 k140) (by decide) (by omega) (by omega) ((frm_r f139 (by omega)).trans (rI_eq e125 ⟨by omega, by omega⟩)) ?_
                    refine z_if_ne 194 dX12_readText_187 rfl ⟨by omega, by omega⟩ (fun c147 => ?_) (fun c147 => ?_)
                    · skip
                      refine z_iconst (0) dX12_readText_194 rfl ?_
                      refine z_bret dX12_readText_195 rfl (Or.inl rfl) ⟨rfl, ?_⟩
                      exact kq 0 (Or.inl rfl) _ FR146 (Or.inl ⟨n, OK, k3, ⟨(((frm_r f139 (by omega)).trans (rI_eq e125 ⟨by omega, by omega⟩))).trans (by omega), ((rI_eq e138 ⟨by omega, by omega⟩)).trans (by omega)⟩, H143, Or.inr ⟨rfl, by omega⟩⟩)
                    · skip
                      refine z_iconst (1) dX12_readText_190 rfl ?_
                      refine e_goto 195 dX12_readText_191 rfl ?_
                      refine z_bret dX12_readText_195 rfl (Or.inr rfl) ⟨rfl, ?_⟩
                      exact kq 1 (Or.inr rfl) _ FR146 (Or.inl ⟨n, OK, k3, ⟨(((frm_r f139 (by omega)).trans (rI_eq e125 ⟨by omega, by omega⟩))).trans (by omega), ((rI_eq e138 ⟨by omega, by omega⟩)).trans (by omega)⟩, H143, Or.inl ⟨rfl, by omega⟩⟩)
                  · skip
                    refine e_aload_n dX12_readText_172 rfl ?_
                    refine z_get (ntQ True (tkS T L (runP 0 T L n)) (runF 0 T L n) (runQ 0 T L n)) dX12_readText_173 tf_12_152 (rk_s k127) (Or.inl rfl) (H132.2.1 (by omega)) ?_
                    refine e_goto 180 dX12_readText_176 rfl ?_
                    refine z_ist dX12_readText_180 (rk_a4 k127) (by decide) (by omega) (by omega) (fun h148 e149 => ?_)
                    have f150 := frm_1 e149
                    have k151 := rk_q (frm_s f150) k127
                    have H152 := rfT_c f150 (fun a k q => by omega) H128
                    have H153 := rfP_c f150 (fun a k q => by omega) H129
                    have H154 := rfC_c f150 (fun a k q => by omega) H130
                    have H155 := rfD_c f150 (fun a k q => by omega) H131
                    have H156 := rfF_c f150 (fun a k q => by omega) H132
                    have FR157 := frm_t FR133 (frm_m (S' := (fun a j => (a = m ∧ (j = 9 ∨ (11 ≤ j ∧ j ≤ 17) ∨ (20 ≤ j ∧ j ≤ 22))) ∨ a = m + 9 ∨ a = m + 10 ∨ ((a = m + 3 ∨ a = m + 4) ∧ j = 0))) f150 (fun a k q => by omega))
                    refine e_aload_n dX12_readText_181 rfl ?_
                    refine e_get (.ref (m + 3)) dX12_readText_182 tf_12_17 (rk_s k151) (congrArg va_rf (rk_r3 k151)) ?_
                    refine z_iconst (0) dX12_readText_185 rfl ?_
                    refine z_ild (ntF True 4 (runF 0 T L n)) dX12_readText_186 (rk_a3 k151) (by decide) (by omega) (by omega) ((frm_r f150 (by omega)).trans (rI_eq e125 ⟨by omega, by omega⟩)) ?_
                    refine z_if_ne 194 dX12_readText_187 rfl ⟨by omega, by omega⟩ (fun c158 => ?_) (fun c158 => ?_)
                    · skip
                      refine z_iconst (0) dX12_readText_194 rfl ?_
                      refine z_bret dX12_readText_195 rfl (Or.inl rfl) ⟨rfl, ?_⟩
                      exact kq 0 (Or.inl rfl) _ FR157 (Or.inl ⟨n, OK, k3, ⟨(((frm_r f150 (by omega)).trans (rI_eq e125 ⟨by omega, by omega⟩))).trans (by omega), ((rI_eq e149 ⟨by omega, by omega⟩)).trans (by omega)⟩, H154, Or.inr ⟨rfl, by omega⟩⟩)
                    · skip
                      refine z_iconst (1) dX12_readText_190 rfl ?_
                      refine e_goto 195 dX12_readText_191 rfl ?_
                      refine z_bret dX12_readText_195 rfl (Or.inr rfl) ⟨rfl, ?_⟩
                      exact kq 1 (Or.inr rfl) _ FR157 (Or.inl ⟨n, OK, k3, ⟨(((frm_r f150 (by omega)).trans (rI_eq e125 ⟨by omega, by omega⟩))).trans (by omega), ((rI_eq e149 ⟨by omega, by omega⟩)).trans (by omega)⟩, H154, Or.inl ⟨rfl, by omega⟩⟩)
                · exfalso; omega
            · skip
              refine e_aload_n dX12_readText_109 rfl ?_
              refine z_get (faU T L n) dX12_readText_110 tf_12_180 (rk_s k48) (Or.inl rfl) D1.2.1 ?_
              have y159 := D1.2.2
              refine e_aload_n dX12_readText_113 rfl ?_
              refine e_get (.ref (m + 9)) dX12_readText_114 tf_12_35 (rk_s k48) (congrArg va_rf (rk_r9 k48)) ?_
              refine z_iconst (1) dX12_readText_117 rfl ?_
              refine z_ild ((runC 0 T L n) 1) dX12_readText_118 (rk_a9 k48) (by decide) (by omega) (by omega) (C1 1 (by omega) (by omega)) ?_
              have y160 := rI_r (C1 1 (by omega) (by omega))
              refine z_icmp_lt 131 dX12_readText_119 rfl ⟨by omega, by omega⟩ ⟨by omega, by omega⟩ (fun c161 => ?_) (fun c161 => ?_)
              · skip
                have FE := fe_n (s := 0) (T := T) (L := L) (n := n) (fun z => by have mf := (ms_fa OK z.2).mp z.1; omega)
                refine e_aload_n dX12_readText_131 rfl ?_
                refine e_get (.ref (m + 3)) dX12_readText_132 tf_12_17 (rk_s k48) (congrArg va_rf (rk_r3 k48)) ?_
                refine z_iconst (0) dX12_readText_135 rfl ?_
                refine e_iload_n dX12_readText_136 rfl ?_
                refine z_if_eq 147 dX12_readText_137 rfl ⟨by omega, by omega⟩ (fun c162 => ?_) (fun c162 => ?_)
                · exfalso; omega
                · skip
                  refine e_aload_n dX12_readText_140 rfl ?_
                  refine z_get (runF 0 T L n) dX12_readText_141 tf_12_149 (rk_s k48) (Or.inl rfl) F1.1 ?_
                  have y163 := F1.2.2
                  refine e_goto 148 dX12_readText_144 rfl ?_
                  refine z_ist dX12_readText_148 (rk_a3 k48) (by decide) (by omega) (by omega) (fun h164 e165 => ?_)
                  have f166 := frm_1 e165
                  have k167 := rk_q (frm_s f166) k48
                  have H168 := rfT_c f166 (fun a k q => by omega) H49
                  have H169 := rfP_c f166 (fun a k q => by omega) P1
                  have H170 := rfF_c f166 (fun a k q => by omega) F1
                  have H171 := rfC_c f166 (fun a k q => by omega) C1
                  have H172 := rfD_c f166 (fun a k q => by omega) D1
                  have FR173 := frm_t FR50 (frm_m (S' := (fun a j => (a = m ∧ (j = 9 ∨ (11 ≤ j ∧ j ≤ 17) ∨ (20 ≤ j ∧ j ≤ 22))) ∨ a = m + 9 ∨ a = m + 10 ∨ ((a = m + 3 ∨ a = m + 4) ∧ j = 0))) f166 (fun a k q => by omega))
                  refine e_aload_n dX12_readText_149 rfl ?_
                  refine e_get (.ref (m + 4)) dX12_readText_150 tf_12_20 (rk_s k167) (congrArg va_rf (rk_r4 k167)) ?_
                  refine z_iconst (0) dX12_readText_153 rfl ?_
                  refine e_iload_n dX12_readText_154 rfl ?_
                  refine z_if_ne 165 dX12_readText_155 rfl ⟨by omega, by omega⟩ (fun c174 => ?_) (fun c174 => ?_)
                  · skip
                    refine e_aload_n dX12_readText_165 rfl ?_
                    refine z_get (runF 0 T L n) dX12_readText_166 tf_12_149 (rk_s k167) (Or.inl rfl) H170.1 ?_
                    have y175 := H170.2.2
                    refine z_if_le 179 dX12_readText_169 rfl ⟨by omega, by omega⟩ (fun c176 => ?_) (fun c176 => ?_)
                    · skip
                      refine z_iconst (-1) dX12_readText_179 rfl ?_
                      refine z_ist dX12_readText_180 (rk_a4 k167) (by decide) (by omega) (by omega) (fun h177 e178 => ?_)
                      have f179 := frm_1 e178
                      have k180 := rk_q (frm_s f179) k167
                      have H181 := rfT_c f179 (fun a k q => by omega) H168
                      have H182 := rfP_c f179 (fun a k q => by omega) H169
                      have H183 := rfF_c f179 (fun a k q => by omega) H170
                      have H184 := rfC_c f179 (fun a k q => by omega) H171
                      have H185 := rfD_c f179 (fun a k q => by omega) H172
                      have FR186 := frm_t FR173 (frm_m (S' := (fun a j => (a = m ∧ (j = 9 ∨ (11 ≤ j ∧ j ≤ 17) ∨ (20 ≤ j ∧ j ≤ 22))) ∨ a = m + 9 ∨ a = m + 10 ∨ ((a = m + 3 ∨ a = m + 4) ∧ j = 0))) f179 (fun a k q => by omega))
                      refine e_aload_n dX12_readText_181 rfl ?_
                      refine e_get (.ref (m + 3)) dX12_readText_182 tf_12_17 (rk_s k180) (congrArg va_rf (rk_r3 k180)) ?_
                      refine z_iconst (0) dX12_readText_185 rfl ?_
                      refine z_ild (runF 0 T L n) dX12_readText_186 (rk_a3 k180) (by decide) (by omega) (by omega) ((frm_r f179 (by omega)).trans (rI_eq e165 ⟨by omega, by omega⟩)) ?_
                      refine z_if_ne 194 dX12_readText_187 rfl ⟨by omega, by omega⟩ (fun c187 => ?_) (fun c187 => ?_)
                      · skip
                        refine z_iconst (0) dX12_readText_194 rfl ?_
                        refine z_bret dX12_readText_195 rfl (Or.inl rfl) ⟨rfl, ?_⟩
                        exact kq 0 (Or.inl rfl) _ FR186 (Or.inl ⟨n, OK, k3, ⟨(((frm_r f179 (by omega)).trans (rI_eq e165 ⟨by omega, by omega⟩))).trans (by omega), ((rI_eq e178 ⟨by omega, by omega⟩)).trans (by omega)⟩, H184, Or.inr ⟨rfl, by omega⟩⟩)
                      · skip
                        refine z_iconst (1) dX12_readText_190 rfl ?_
                        refine e_goto 195 dX12_readText_191 rfl ?_
                        refine z_bret dX12_readText_195 rfl (Or.inr rfl) ⟨rfl, ?_⟩
                        exact kq 1 (Or.inr rfl) _ FR186 (Or.inl ⟨n, OK, k3, ⟨(((frm_r f179 (by omega)).trans (rI_eq e165 ⟨by omega, by omega⟩))).trans (by omega), ((rI_eq e178 ⟨by omega, by omega⟩)).trans (by omega)⟩, H184, Or.inl ⟨rfl, by omega⟩⟩)
                    · skip
                      refine e_aload_n dX12_readText_172 rfl ?_
                      refine z_get (runQ 0 T L n) dX12_readText_173 tf_12_152 (rk_s k167) (Or.inl rfl) (H170.2.1 (by omega)) ?_
                      refine e_goto 180 dX12_readText_176 rfl ?_
                      refine z_ist dX12_readText_180 (rk_a4 k167) (by decide) (by omega) (by omega) (fun h188 e189 => ?_)
                      have f190 := frm_1 e189
                      have k191 := rk_q (frm_s f190) k167
                      have H192 := rfT_c f190 (fun a k q => by omega) H168
                      have H193 := rfP_c f190 (fun a k q => by omega) H169
                      have H194 := rfF_c f190 (fun a k q => by omega) H170
                      have H195 := rfC_c f190 (fun a k q => by omega) H171
                      have H196 := rfD_c f190 (fun a k q => by omega) H172
                      have FR197 := frm_t FR173 (frm_m (S' := (fun a j => (a = m ∧ (j = 9 ∨ (11 ≤ j ∧ j ≤ 17) ∨ (20 ≤ j ∧ j ≤ 22))) ∨ a = m + 9 ∨ a = m + 10 ∨ ((a = m + 3 ∨ a = m + 4) ∧ j = 0))) f190 (fun a k q => by omega))
                      refine e_aload_n dX12_readText_181 rfl ?_
                      refine e_get (.ref (m + 3)) dX12_readText_182 tf_12_17 (rk_s k191) (congrArg va_rf (rk_r3 k191)) ?_
                      refine z_iconst (0) dX12_readText_185 rfl ?_
                      refine z_ild (runF 0 T L n) dX12_readText_186 (rk_a3 k191) (by decide) (by omega) (by omega) ((frm_r f190 (by omega)).trans (rI_eq e165 ⟨by omega, by omega⟩)) ?_
                      refine z_if_ne 194 dX12_readText_187 rfl ⟨by omega, by omega⟩ (fun c198 => ?_) (fun c198 => ?_)
                      · skip
                        refine z_iconst (0) dX12_readText_194 rfl ?_
                        refine z_bret dX12_readText_195 rfl (Or.inl rfl) ⟨rfl, ?_⟩
                        exact kq 0 (Or.inl rfl) _ FR197 (Or.inl ⟨n, OK, k3, ⟨(((frm_r f190 (by omega)).trans (rI_eq e165 ⟨by omega, by omega⟩))).trans (by omega), ((rI_eq e189 ⟨by omega, by omega⟩)).trans (by omega)⟩, H195, Or.inr ⟨rfl, by omega⟩⟩)
                      · skip
                        refine z_iconst (1) dX12_readText_190 rfl ?_
                        refine e_goto 195 dX12_readText_191 rfl ?_
                        refine z_bret dX12_readText_195 rfl (Or.inr rfl) ⟨rfl, ?_⟩
                        exact kq 1 (Or.inr rfl) _ FR197 (Or.inl ⟨n, OK, k3, ⟨(((frm_r f190 (by omega)).trans (rI_eq e165 ⟨by omega, by omega⟩))).trans (by omega), ((rI_eq e189 ⟨by omega, by omega⟩)).trans (by omega)⟩, H195, Or.inl ⟨rfl, by omega⟩⟩)
                  · exfalso; omega
              · skip
                refine e_aload_n dX12_readText_122 rfl ?_
                refine z_iconst (4) dX12_readText_123 rfl ?_
                refine e_aload_n dX12_readText_124 rfl ?_
                refine z_get (tkS T L (runP 0 T L n)) dX12_readText_125 tf_12_133 (rk_s k48) (Or.inl rfl) P1.2.2.2.1 ?_
                have y199 := tk_b (T := T) P1.1.1 P1.1.2
                have y200 := P1.1
                have y201 := ks_p (tkK T L (runP 0 T L n))
                refine e_callV [.int _, .int _] dX12_readText_128 tm_12_159 rfl (Nat.le_of_ble_eq_true rfl) (rk_s k48) (Nat.le_of_ble_eq_true rfl) (Nat.le_refl _) (Nat.le_refl _) rfl (zp_X12_later k48 F1 4 ⟨by omega, by omega⟩ (tkS T L (runP 0 T L n)) ⟨by omega, by omega⟩ (by omega) N1.2.2 N1.2.1 (fun  h202 f203 p204 => ?_))
                have k205 := rk_q (frm_s f203) k48
                have H206 := rfT_c f203 (fun a k q => by omega) H49
                have H207 := rfP_c f203 (fun a k q => by omega) P1
                have H208 := rfC_c f203 (fun a k q => by omega) C1
                have H209 := rfD_c f203 (fun a k q => by omega) D1
                have FR210 := frm_t FR50 (frm_m (S' := (fun a j => (a = m ∧ (j = 9 ∨ (11 ≤ j ∧ j ≤ 17) ∨ (20 ≤ j ∧ j ≤ 22))) ∨ a = m + 9 ∨ a = m + 10 ∨ ((a = m + 3 ∨ a = m + 4) ∧ j = 0))) f203 (fun a k q => by omega))
                have FE := fe_y (s := 0) (T := T) (L := L) (n := n) ((ms_fa OK (by omega)).mpr (by omega))
                have NT := nt_y (c := True) (k := 4) (s := L) (f := runF 0 T L n) (q := runQ 0 T L n) trivial (by omega)
                have LS : tkS T L (runP 0 T L n) = L := by omega
                have NS : ntQ True (tkS T L (runP 0 T L n)) (runF 0 T L n) (runQ 0 T L n) = L := by rw [LS]; exact NT.2 -- tkS T L (runP 0 T L n) = L by omega] at p204
                refine e_aload_n dX12_readText_131 rfl ?_
                refine e_get (.ref (m + 3)) dX12_readText_132 tf_12_17 (rk_s k205) (congrArg va_rf (rk_r3 k205)) ?_
                refine z_iconst (0) dX12_readText_135 rfl ?_
                refine e_iload_n dX12_readText_136 rfl ?_
                refine z_if_eq 147 dX12_readText_137 rfl ⟨by omega, by omega⟩ (fun c211 => ?_) (fun c211 => ?_)
                · exfalso; omega
                · skip
                  refine e_aload_n dX12_readText_140 rfl ?_
                  refine z_get (ntF True 4 (runF 0 T L n)) dX12_readText_141 tf_12_149 (rk_s k205) (Or.inl rfl) p204.1 ?_
                  have y212 := p204.2.2
                  refine e_goto 148 dX12_readText_144 rfl ?_
                  refine z_ist dX12_readText_148 (rk_a3 k205) (by decide) (by omega) (by omega) (fun h213 e214 => ?_)
                  have f215 := frm_1 e214
                  have k216 := rk_q (frm_s f215) k205
                  have H217 := rfT_c f215 (fun a k q => by omega) H206
                  have H218 := rfP_c f215 (fun a k q => by omega) H207
                  have H219 := rfC_c f215 (fun a k q => by omega) H208
                  have H220 := rfD_c f215 (fun a k q => by omega) H209
                  have H221 := rfF_c f215 (fun a k q => by omega) p204
                  have FR222 := frm_t FR210 (frm_m (S' := (fun a j => (a = m ∧ (j = 9 ∨ (11 ≤ j ∧ j ≤ 17) ∨ (20 ≤ j ∧ j ≤ 22))) ∨ a = m + 9 ∨ a = m + 10 ∨ ((a = m + 3 ∨ a = m + 4) ∧ j = 0))) f215 (fun a k q => by omega))
                  refine e_aload_n dX12_readText_149 rfl ?_
                  refine e_get (.ref (m + 4)) dX12_readText_150 tf_12_20 (rk_s k216) (congrArg va_rf (rk_r4 k216)) ?_
                  refine z_iconst (0) dX12_readText_153 rfl ?_
                  refine e_iload_n dX12_readText_154 rfl ?_
                  refine z_if_ne 165 dX12_readText_155 rfl ⟨by omega, by omega⟩ (fun c223 => ?_) (fun c223 => ?_)
                  · skip
                    refine e_aload_n dX12_readText_165 rfl ?_
                    refine z_get (ntF True 4 (runF 0 T L n)) dX12_readText_166 tf_12_149 (rk_s k216) (Or.inl rfl) H221.1 ?_
                    have y224 := H221.2.2
                    refine z_if_le 179 dX12_readText_169 rfl ⟨by omega, by omega⟩ (fun c225 => ?_) (fun c225 => ?_)
                    · skip
                      refine z_iconst (-1) dX12_readText_179 rfl ?_
                      refine z_ist dX12_readText_180 (rk_a4 k216) (by decide) (by omega) (by omega) (fun h226 e227 => ?_)
                      have f228 := frm_1 e227
                      have k229 := rk_q (frm_s f228) k216
                      have H230 := rfT_c f228 (fun a k q => by omega) H217
                      have H231 := rfP_c f228 (fun a k q => by omega) H218
                      have H232 := rfC_c f228 (fun a k q => by omega) H219
                      have H233 := rfD_c f228 (fun a k q => by omega) H220
                      have H234 := rfF_c f228 (fun a k q => by omega) H221
                      have FR235 := frm_t FR222 (frm_m (S' := (fun a j => (a = m ∧ (j = 9 ∨ (11 ≤ j ∧ j ≤ 17) ∨ (20 ≤ j ∧ j ≤ 22))) ∨ a = m + 9 ∨ a = m + 10 ∨ ((a = m + 3 ∨ a = m + 4) ∧ j = 0))) f228 (fun a k q => by omega))
                      refine e_aload_n dX12_readText_181 rfl ?_
                      refine e_get (.ref (m + 3)) dX12_readText_182 tf_12_17 (rk_s k229) (congrArg va_rf (rk_r3 k229)) ?_
                      refine z_iconst (0) dX12_readText_185 rfl ?_
                      refine z_ild (ntF True 4 (runF 0 T L n)) dX12_readText_186 (rk_a3 k229) (by decide) (by omega) (by omega) ((frm_r f228 (by omega)).trans (rI_eq e214 ⟨by omega, by omega⟩)) ?_
                      refine z_if_ne 194 dX12_readText_187 rfl ⟨by omega, by omega⟩ (fun c236 => ?_) (fun c236 => ?_)
                      · skip
                        refine z_iconst (0) dX12_readText_194 rfl ?_
                        refine z_bret dX12_readText_195 rfl (Or.inl rfl) ⟨rfl, ?_⟩
                        exact kq 0 (Or.inl rfl) _ FR235 (Or.inl ⟨n, OK, k3, ⟨(((frm_r f228 (by omega)).trans (rI_eq e214 ⟨by omega, by omega⟩))).trans (by omega), ((rI_eq e227 ⟨by omega, by omega⟩)).trans (by omega)⟩, H232, Or.inr ⟨rfl, by omega⟩⟩)
                      · skip
                        refine z_iconst (1) dX12_readText_190 rfl ?_
                        refine e_goto 195 dX12_readText_191 rfl ?_
                        refine z_bret dX12_readText_195 rfl (Or.inr rfl) ⟨rfl, ?_⟩
                        exact kq 1 (Or.inr rfl) _ FR235 (Or.inl ⟨n, OK, k3, ⟨(((frm_r f228 (by omega)).trans (rI_eq e214 ⟨by omega, by omega⟩))).trans (by omega), ((rI_eq e227 ⟨by omega, by omega⟩)).trans (by omega)⟩, H232, Or.inl ⟨rfl, by omega⟩⟩)
                    · skip
                      refine e_aload_n dX12_readText_172 rfl ?_
                      refine z_get (ntQ True (tkS T L (runP 0 T L n)) (runF 0 T L n) (runQ 0 T L n)) dX12_readText_173 tf_12_152 (rk_s k216) (Or.inl rfl) (H221.2.1 (by omega)) ?_
                      refine e_goto 180 dX12_readText_176 rfl ?_
                      refine z_ist dX12_readText_180 (rk_a4 k216) (by decide) (by omega) (by omega) (fun h237 e238 => ?_)
                      have f239 := frm_1 e238
                      have k240 := rk_q (frm_s f239) k216
                      have H241 := rfT_c f239 (fun a k q => by omega) H217
                      have H242 := rfP_c f239 (fun a k q => by omega) H218
                      have H243 := rfC_c f239 (fun a k q => by omega) H219
                      have H244 := rfD_c f239 (fun a k q => by omega) H220
                      have H245 := rfF_c f239 (fun a k q => by omega) H221
                      have FR246 := frm_t FR222 (frm_m (S' := (fun a j => (a = m ∧ (j = 9 ∨ (11 ≤ j ∧ j ≤ 17) ∨ (20 ≤ j ∧ j ≤ 22))) ∨ a = m + 9 ∨ a = m + 10 ∨ ((a = m + 3 ∨ a = m + 4) ∧ j = 0))) f239 (fun a k q => by omega))
                      refine e_aload_n dX12_readText_181 rfl ?_
                      refine e_get (.ref (m + 3)) dX12_readText_182 tf_12_17 (rk_s k240) (congrArg va_rf (rk_r3 k240)) ?_
                      refine z_iconst (0) dX12_readText_185 rfl ?_
                      refine z_ild (ntF True 4 (runF 0 T L n)) dX12_readText_186 (rk_a3 k240) (by decide) (by omega) (by omega) ((frm_r f239 (by omega)).trans (rI_eq e214 ⟨by omega, by omega⟩)) ?_
                      refine z_if_ne 194 dX12_readText_187 rfl ⟨by omega, by omega⟩ (fun c247 => ?_) (fun c247 => ?_)
                      · skip
                        refine z_iconst (0) dX12_readText_194 rfl ?_
                        refine z_bret dX12_readText_195 rfl (Or.inl rfl) ⟨rfl, ?_⟩
                        exact kq 0 (Or.inl rfl) _ FR246 (Or.inl ⟨n, OK, k3, ⟨(((frm_r f239 (by omega)).trans (rI_eq e214 ⟨by omega, by omega⟩))).trans (by omega), ((rI_eq e238 ⟨by omega, by omega⟩)).trans (by omega)⟩, H243, Or.inr ⟨rfl, by omega⟩⟩)
                      · skip
                        refine z_iconst (1) dX12_readText_190 rfl ?_
                        refine e_goto 195 dX12_readText_191 rfl ?_
                        refine z_bret dX12_readText_195 rfl (Or.inr rfl) ⟨rfl, ?_⟩
                        exact kq 1 (Or.inr rfl) _ FR246 (Or.inl ⟨n, OK, k3, ⟨(((frm_r f239 (by omega)).trans (rI_eq e214 ⟨by omega, by omega⟩))).trans (by omega), ((rI_eq e238 ⟨by omega, by omega⟩)).trans (by omega)⟩, H243, Or.inl ⟨rfl, by omega⟩⟩)
                  · exfalso; omega
    · skip
      refine e_aload_n dX12_readText_8 rfl ?_
      refine e_get (.ref (m + 9)) dX12_readText_9 tf_12_35 (rk_s k2) (congrArg va_rf (rk_r9 k2)) ?_
      refine e_iload_n dX12_readText_12 rfl ?_
      refine e_iload_n dX12_readText_13 rfl ?_
      refine z_if_ne 43 dX12_readText_14 rfl ⟨by omega, by omega⟩ (fun c248 => ?_) (fun c248 => ?_)
      · exfalso; omega
      · skip
        refine e_iload_n dX12_readText_17 rfl ?_
        refine z_bipush (27) dX12_readText_18 rfl ?_
        refine z_bipush (32) dX12_readText_20 rfl ?_
        refine e_callS [.int _, .int _, .int _] dX12_readText_22 tm_12_115 rfl (Nat.le_of_ble_eq_true rfl) (Nat.le_refl _) (Nat.le_refl _) rfl (zp_X12_in i ⟨by omega, by omega⟩ 27 ⟨by omega, by omega⟩ 32 ⟨by omega, by omega⟩ ?_)
        refine z_ifb_ne 39 dX12_readText_25 rfl (fun c249 => ?_) (fun c249 => ?_)
        · skip
          refine z_iconst (-1) dX12_readText_39 rfl ?_
          refine e_goto 44 dX12_readText_40 rfl ?_
          refine z_ist dX12_readText_44 (rk_a9 k2) (by decide) (by omega) (by omega) (fun h250 e251 => ?_)
          have f252 := frm_1 e251
          have k253 := rk_q (frm_s f252) k2
          have H254 := rfT_c f252 (fun a k q => by omega) H3
          have FR255 := frm_t FR4 (frm_m (S' := (fun a j => (a = m ∧ (j = 9 ∨ (11 ≤ j ∧ j ≤ 17) ∨ (20 ≤ j ∧ j ≤ 22))) ∨ a = m + 9 ∨ a = m + 10 ∨ ((a = m + 3 ∨ a = m + 4) ∧ j = 0))) f252 (fun a k q => by omega))
          refine z_iinc (L' := [_, _, _]) dX12_readText_45 rfl rfl ?_
          refine e_goto 2 dX12_readText_48 rfl ?_
          exact ih1 _ (by omega) (i + 1) h250 rfl k253 H254 FR255 (by omega) (fun k a z => by
            by_cases q : k = i
            · rw [q]; exact ((rI_eq e251 ⟨by omega, by omega⟩)).trans (by unfold ini0; first | rw [if_pos (by omega)] | rw [if_neg (by omega)])
            · exact ((frm_r f252 (by omega))).trans (I2 k a (by omega)))
        · skip
          refine e_iload_n dX12_readText_28 rfl ?_
          refine z_bipush (57) dX12_readText_29 rfl ?_
          refine z_bipush (62) dX12_readText_31 rfl ?_
          refine e_callS [.int _, .int _, .int _] dX12_readText_33 tm_12_115 rfl (Nat.le_of_ble_eq_true rfl) (Nat.le_refl _) (Nat.le_refl _) rfl (zp_X12_in i ⟨by omega, by omega⟩ 57 ⟨by omega, by omega⟩ 62 ⟨by omega, by omega⟩ ?_)
          refine z_ifb_eq 43 dX12_readText_36 rfl (fun c256 => ?_) (fun c256 => ?_)
          · skip
            refine z_iconst (0) dX12_readText_43 rfl ?_
            refine z_ist dX12_readText_44 (rk_a9 k2) (by decide) (by omega) (by omega) (fun h257 e258 => ?_)
            have f259 := frm_1 e258
            have k260 := rk_q (frm_s f259) k2
            have H261 := rfT_c f259 (fun a k q => by omega) H3
            have FR262 := frm_t FR4 (frm_m (S' := (fun a j => (a = m ∧ (j = 9 ∨ (11 ≤ j ∧ j ≤ 17) ∨ (20 ≤ j ∧ j ≤ 22))) ∨ a = m + 9 ∨ a = m + 10 ∨ ((a = m + 3 ∨ a = m + 4) ∧ j = 0))) f259 (fun a k q => by omega))
            refine z_iinc (L' := [_, _, _]) dX12_readText_45 rfl rfl ?_
            refine e_goto 2 dX12_readText_48 rfl ?_
            exact ih1 _ (by omega) (i + 1) h257 rfl k260 H261 FR262 (by omega) (fun k a z => by
              by_cases q : k = i
              · rw [q]; exact ((rI_eq e258 ⟨by omega, by omega⟩)).trans (by unfold ini0; first | rw [if_pos (by omega)] | rw [if_neg (by omega)])
              · exact ((frm_r f259 (by omega))).trans (I2 k a (by omega)))
          · skip
            refine z_iconst (-1) dX12_readText_39 rfl ?_
            refine e_goto 44 dX12_readText_40 rfl ?_
            refine z_ist dX12_readText_44 (rk_a9 k2) (by decide) (by omega) (by omega) (fun h263 e264 => ?_)
            have f265 := frm_1 e264
            have k266 := rk_q (frm_s f265) k2
            have H267 := rfT_c f265 (fun a k q => by omega) H3
            have FR268 := frm_t FR4 (frm_m (S' := (fun a j => (a = m ∧ (j = 9 ∨ (11 ≤ j ∧ j ≤ 17) ∨ (20 ≤ j ∧ j ≤ 22))) ∨ a = m + 9 ∨ a = m + 10 ∨ ((a = m + 3 ∨ a = m + 4) ∧ j = 0))) f265 (fun a k q => by omega))
            refine z_iinc (L' := [_, _, _]) dX12_readText_45 rfl rfl ?_
            refine e_goto 2 dX12_readText_48 rfl ?_
            exact ih1 _ (by omega) (i + 1) h263 rfl k266 H267 FR268 (by omega) (fun k a z => by
              by_cases q : k = i
              · rw [q]; exact ((rI_eq e264 ⟨by omega, by omega⟩)).trans (by unfold ini0; first | rw [if_pos (by omega)] | rw [if_neg (by omega)])
              · exact ((frm_r f265 (by omega))).trans (I2 k a (by omega)))
  exact lp1 _ 0 h rfl hk HT FR0 (by omega) (fun k a z => by omega)
set_option maxHeartbeats 4000000 in
theorem zp_X12_readText_1 {ad : mA} {dd : Nat} {h : mH} {Q : mQ} {m : Nat} {T : Int → Int} {L : Int} (hk : rk h m) (HT : rfT h m T L)    (kq : ∀ v : Int, (v = 0 ∨ v = 1) → ∀ h1, frm (fun a j => (a = m ∧ (j = 9 ∨ (11 ≤ j ∧ j ≤ 17) ∨ (20 ≤ j ∧ j ≤ 22))) ∨ a = m + 9 ∨ a = m + 10 ∨ ((a = m + 3 ∨ a = m + 4) ∧ j = 0)) h h1 → (rtO h1 m 1 T L v) → Q (some (.int (zI v))) h1) : mCal TB0 ad (dd + 8) M_X12_readText [.ref m, .int (zI 1)] h 0 0 Q := by
  refine ⟨Nat.le_of_ble_eq_true rfl, ?_⟩
  show mEv TB0 ad M_X12_readText (dd + 8) (0, 0) (mCal TB0 ad (dd + 7)) (fun v h' z => z.1 = 0 ∧ Q v h') 0 [some (.ref m), some (.int (zI 1)), none] [] h (0, 0)
  have FR0 : frm (fun a j => (a = m ∧ (j = 9 ∨ (11 ≤ j ∧ j ≤ 17) ∨ (20 ≤ j ∧ j ≤ 22))) ∨ a = m + 9 ∨ a = m + 10 ∨ ((a = m + 3 ∨ a = m + 4) ∧ j = 0)) h h := frm_0 h
  have w1 := HT.1
  refine z_iconst (0) dX12_readText_0 rfl ?_
  refine e_istore_n (L' := [_, _, _]) dX12_readText_1 (Nat.le_of_ble_eq_true rfl) rfl ?_
  have lp1 : ∀ (n1 : Nat) (i : Int) (h1 : mH), (121 - i).toNat = n1 → (rk h1 m) → (rfT h1 m T L) → (frm (fun a j => (a = m ∧ (j = 9 ∨ (11 ≤ j ∧ j ≤ 17) ∨ (20 ≤ j ∧ j ≤ 22))) ∨ a = m + 9 ∨ a = m + 10 ∨ ((a = m + 3 ∨ a = m + 4) ∧ j = 0)) h h1) → (0 ≤ i ∧ i ≤ 121) → (∀ k : Int, 0 ≤ k → k < i → rI h1 (m + 9) k = ini0 1 k) → mEv TB0 ad M_X12_readText (dd + 8) (0, 0) (mCal TB0 ad (dd + 7)) (fun v h' z => z.1 = 0 ∧ Q v h') 2 [some (.ref m), some (.int (zI 1)), some (.int (zI i))] [] h1 (0, 0) := by
    intro n1
    induction n1 using Nat.strongRecOn with
    | ind n1 ih1 =>
    intro i h1 hn1 k2 H3 FR4 I1 I2
    refine e_iload_n dX12_readText_2 rfl ?_
    refine z_bipush (121) dX12_readText_3 rfl ?_
    refine z_icmp_ge 51 dX12_readText_5 rfl ⟨by omega, by omega⟩ ⟨by omega, by omega⟩ (fun c5 => ?_) (fun c5 => ?_)
    · skip
      have RC : rfC h1 m (ini0 1) := fun k a z => I2 k a (by omega)
      refine e_aload_n dX12_readText_51 rfl ?_
      refine z_iconst (-1) dX12_readText_52 rfl ?_
      refine z_put dX12_readText_53 tf_12_173 (rk_s k2) rfl (Or.inl rfl) (fun h6 e7 => ?_)
      have f8 := frm_1 e7
      have k9 := rk_q (frm_s f8) k2
      have H10 := rfT_c f8 (fun a k q => by omega) H3
      have H11 := rfC_c f8 (fun a k q => by omega) RC
      have FR12 := frm_t FR4 (frm_m (S' := (fun a j => (a = m ∧ (j = 9 ∨ (11 ≤ j ∧ j ≤ 17) ∨ (20 ≤ j ∧ j ≤ 22))) ∨ a = m + 9 ∨ a = m + 10 ∨ ((a = m + 3 ∨ a = m + 4) ∧ j = 0))) f8 (fun a k q => by omega))
      refine e_aload_n dX12_readText_56 rfl ?_
      refine z_iconst (-1) dX12_readText_57 rfl ?_
      refine z_put dX12_readText_58 tf_12_180 (rk_s k9) rfl (Or.inl rfl) (fun h13 e14 => ?_)
      have f15 := frm_1 e14
      have k16 := rk_q (frm_s f15) k9
      have H17 := rfT_c f15 (fun a k q => by omega) H10
      have H18 := rfC_c f15 (fun a k q => by omega) H11
      have FR19 := frm_t FR12 (frm_m (S' := (fun a j => (a = m ∧ (j = 9 ∨ (11 ≤ j ∧ j ≤ 17) ∨ (20 ≤ j ∧ j ≤ 22))) ∨ a = m + 9 ∨ a = m + 10 ∨ ((a = m + 3 ∨ a = m + 4) ∧ j = 0))) f15 (fun a k q => by omega))
      refine e_aload_n dX12_readText_61 rfl ?_
      refine z_iconst (0) dX12_readText_62 rfl ?_
      refine z_put dX12_readText_63 tf_12_123 (rk_s k16) rfl (Or.inl rfl) (fun h20 e21 => ?_)
      have f22 := frm_1 e21
      have k23 := rk_q (frm_s f22) k16
      have H24 := rfT_c f22 (fun a k q => by omega) H17
      have H25 := rfC_c f22 (fun a k q => by omega) H18
      have FR26 := frm_t FR19 (frm_m (S' := (fun a j => (a = m ∧ (j = 9 ∨ (11 ≤ j ∧ j ≤ 17) ∨ (20 ≤ j ∧ j ≤ 22))) ∨ a = m + 9 ∨ a = m + 10 ∨ ((a = m + 3 ∨ a = m + 4) ∧ j = 0))) f22 (fun a k q => by omega))
      refine e_aload_n dX12_readText_66 rfl ?_
      refine z_iconst (0) dX12_readText_67 rfl ?_
      refine z_put dX12_readText_68 tf_12_149 (rk_s k23) rfl (Or.inl rfl) (fun h27 e28 => ?_)
      have f29 := frm_1 e28
      have k30 := rk_q (frm_s f29) k23
      have H31 := rfT_c f29 (fun a k q => by omega) H24
      have H32 := rfC_c f29 (fun a k q => by omega) H25
      have FR33 := frm_t FR26 (frm_m (S' := (fun a j => (a = m ∧ (j = 9 ∨ (11 ≤ j ∧ j ≤ 17) ∨ (20 ≤ j ∧ j ≤ 22))) ∨ a = m + 9 ∨ a = m + 10 ∨ ((a = m + 3 ∨ a = m + 4) ∧ j = 0))) f29 (fun a k q => by omega))
      have RF : rfF h27 m 0 (-1) := ⟨(rI_eq e28 ⟨by omega, by omega⟩), fun z => absurd rfl z, by omega⟩
      have PA72 : rI h27 m 9 = 0 := ((frm_r f29 (by omega)).trans (rI_eq e21 ⟨by omega, by omega⟩))
      refine e_aload_n dX12_readText_71 rfl ?_
      refine e_callV [] dX12_readText_72 tm_12_167 rfl (Nat.le_of_ble_eq_true rfl) (rk_s k30) (Nat.le_of_ble_eq_true rfl) (Nat.le_refl _) (Nat.le_refl _) rfl (zp_X12_token k30 H31 0 PA72 (by omega) (fun  h34 f35 p36 => ?_))
      have k37 := rk_q (frm_s f35) k30
      have H38 := rfT_c f35 (fun a k q => by omega) H31
      have H39 := rfC_c f35 (fun a k q => by omega) H32
      have H40 := rfF_c f35 (fun a k q => by omega) RF
      have FR41 := frm_t FR33 (frm_m (S' := (fun a j => (a = m ∧ (j = 9 ∨ (11 ≤ j ∧ j ≤ 17) ∨ (20 ≤ j ∧ j ≤ 22))) ∨ a = m + 9 ∨ a = m + 10 ∨ ((a = m + 3 ∨ a = m + 4) ∧ j = 0))) f35 (fun a k q => by omega))
      refine e_aload_n dX12_readText_75 rfl ?_
      refine e_iload_n dX12_readText_76 rfl ?_
      refine e_callV [.int _] dX12_readText_77 tm_12_251 rfl (Nat.le_of_ble_eq_true rfl) (rk_s k37) (Nat.le_of_ble_eq_true rfl) (Nat.le_refl _) (Nat.le_refl _) rfl (zp_X12_lines_1 k37 H38 p36 H40 H39 (fun v42 p43 h44 f45 p46 => ?_))
      have k47 := rk_q (frm_s f45) k37
      have H48 := rfT_c f45 (fun a k q => by omega) H38
      have FR49 := frm_t FR41 (frm_m (S' := (fun a j => (a = m ∧ (j = 9 ∨ (11 ≤ j ∧ j ≤ 17) ∨ (20 ≤ j ∧ j ≤ 22))) ∨ a = m + 9 ∨ a = m + 10 ∨ ((a = m + 3 ∨ a = m + 4) ∧ j = 0))) f45 (fun a k q => by omega))
      skip
      refine e_istore_n (L' := [_, _, _]) dX12_readText_80 (Nat.le_of_ble_eq_true rfl) rfl ?_
      refine e_iload_n dX12_readText_81 rfl ?_
      refine z_if_eq 131 dX12_readText_82 rfl ⟨by omega, by omega⟩ (fun c50 => ?_) (fun c50 => ?_)
      · skip
        obtain ⟨n, OK, k3, A0, X0⟩ := lso_0 p46 (by omega)
        have ob := okN_b w1.1 n OK
        have lb := lx_b (s := 1) (T := T) (L := L) ⟨ob.1, ob.2.1⟩
        skip
        refine e_aload_n dX12_readText_131 rfl ?_
        refine e_get (.ref (m + 3)) dX12_readText_132 tf_12_17 (rk_s k47) (congrArg va_rf (rk_r3 k47)) ?_
        refine z_iconst (0) dX12_readText_135 rfl ?_
        refine e_iload_n dX12_readText_136 rfl ?_
        refine z_if_eq 147 dX12_readText_137 rfl ⟨by omega, by omega⟩ (fun c51 => ?_) (fun c51 => ?_)
        · skip
          refine z_iconst (1) dX12_readText_147 rfl ?_
          refine z_ist dX12_readText_148 (rk_a3 k47) (by decide) (by omega) (by omega) (fun h52 e53 => ?_)
          have f54 := frm_1 e53
          have k55 := rk_q (frm_s f54) k47
          have H56 := rfT_c f54 (fun a k q => by omega) H48
          have FR57 := frm_t FR49 (frm_m (S' := (fun a j => (a = m ∧ (j = 9 ∨ (11 ≤ j ∧ j ≤ 17) ∨ (20 ≤ j ∧ j ≤ 22))) ∨ a = m + 9 ∨ a = m + 10 ∨ ((a = m + 3 ∨ a = m + 4) ∧ j = 0))) f54 (fun a k q => by omega))
          refine e_aload_n dX12_readText_149 rfl ?_
          refine e_get (.ref (m + 4)) dX12_readText_150 tf_12_20 (rk_s k55) (congrArg va_rf (rk_r4 k55)) ?_
          refine z_iconst (0) dX12_readText_153 rfl ?_
          refine e_iload_n dX12_readText_154 rfl ?_
          refine z_if_ne 165 dX12_readText_155 rfl ⟨by omega, by omega⟩ (fun c58 => ?_) (fun c58 => ?_)
          · exfalso; omega
          · skip
            refine e_aload_n dX12_readText_158 rfl ?_
            refine z_get (lnX 1 T L (runP 1 T L n)) dX12_readText_159 tf_12_146 (rk_s k55) (Or.inl rfl) (((frm_r f54 (by omega))).trans X0) ?_
            refine e_goto 180 dX12_readText_162 rfl ?_
            refine z_ist dX12_readText_180 (rk_a4 k55) (by decide) (by omega) (by omega) (fun h59 e60 => ?_)
            have f61 := frm_1 e60
            have k62 := rk_q (frm_s f61) k55
            have H63 := rfT_c f61 (fun a k q => by omega) H56
            have FR64 := frm_t FR57 (frm_m (S' := (fun a j => (a = m ∧ (j = 9 ∨ (11 ≤ j ∧ j ≤ 17) ∨ (20 ≤ j ∧ j ≤ 22))) ∨ a = m + 9 ∨ a = m + 10 ∨ ((a = m + 3 ∨ a = m + 4) ∧ j = 0))) f61 (fun a k q => by omega))
            refine e_aload_n dX12_readText_181 rfl ?_
            refine e_get (.ref (m + 3)) dX12_readText_182 tf_12_17 (rk_s k62) (congrArg va_rf (rk_r3 k62)) ?_
            refine z_iconst (0) dX12_readText_185 rfl ?_
            refine z_ild 1 dX12_readText_186 (rk_a3 k62) (by decide) (by omega) (by omega) ((frm_r f61 (by omega)).trans (rI_eq e53 ⟨by omega, by omega⟩)) ?_
            refine z_if_ne 194 dX12_readText_187 rfl ⟨by omega, by omega⟩ (fun c65 => ?_) (fun c65 => ?_)
            · skip
              refine z_iconst (0) dX12_readText_194 rfl ?_
              refine z_bret dX12_readText_195 rfl (Or.inl rfl) ⟨rfl, ?_⟩
              exact kq 0 (Or.inl rfl) _ FR64 (Or.inr ⟨rfl, n, OK, k3, A0, ((frm_r f61 (by omega)).trans (rI_eq e53 ⟨by omega, by omega⟩)), (rI_eq e60 ⟨by omega, by omega⟩)⟩)
            · exfalso; omega
        · exfalso; omega
      · skip
        obtain ⟨n, OK, k3, P1, F1, N1, C1, D0⟩ := lso_1 p46 (by omega)
        have p1 := P1.1
        have nb1 := N1.1
        have nb2 := N1.2.1
        have tz := tk_b (T := T) p1.1 p1.2
        have rq := rn_q (s := 1) (T := T) (L := L) n
        refine e_iload_n dX12_readText_85 rfl ?_
        refine z_if_ne 131 dX12_readText_86 rfl ⟨by omega, by omega⟩ (fun c66 => ?_) (fun c66 => ?_)
        · skip
          have FE := fe_n (s := 1) (T := T) (L := L) (n := n) (fun z => absurd z.1.1 (by omega))
          refine e_aload_n dX12_readText_131 rfl ?_
          refine e_get (.ref (m + 3)) dX12_readText_132 tf_12_17 (rk_s k47) (congrArg va_rf (rk_r3 k47)) ?_
          refine z_iconst (0) dX12_readText_135 rfl ?_
          refine e_iload_n dX12_readText_136 rfl ?_
          refine z_if_eq 147 dX12_readText_137 rfl ⟨by omega, by omega⟩ (fun c67 => ?_) (fun c67 => ?_)
          · exfalso; omega
          · skip
            refine e_aload_n dX12_readText_140 rfl ?_
            refine z_get (runF 1 T L n) dX12_readText_141 tf_12_149 (rk_s k47) (Or.inl rfl) F1.1 ?_
            have y68 := F1.2.2
            refine e_goto 148 dX12_readText_144 rfl ?_
            refine z_ist dX12_readText_148 (rk_a3 k47) (by decide) (by omega) (by omega) (fun h69 e70 => ?_)
            have f71 := frm_1 e70
            have k72 := rk_q (frm_s f71) k47
            have H73 := rfT_c f71 (fun a k q => by omega) H48
            have H74 := rfP_c f71 (fun a k q => by omega) P1
            have H75 := rfF_c f71 (fun a k q => by omega) F1
            have H76 := rfC_c f71 (fun a k q => by omega) C1
            have FR77 := frm_t FR49 (frm_m (S' := (fun a j => (a = m ∧ (j = 9 ∨ (11 ≤ j ∧ j ≤ 17) ∨ (20 ≤ j ∧ j ≤ 22))) ∨ a = m + 9 ∨ a = m + 10 ∨ ((a = m + 3 ∨ a = m + 4) ∧ j = 0))) f71 (fun a k q => by omega))
            refine e_aload_n dX12_readText_149 rfl ?_
            refine e_get (.ref (m + 4)) dX12_readText_150 tf_12_20 (rk_s k72) (congrArg va_rf (rk_r4 k72)) ?_
            refine z_iconst (0) dX12_readText_153 rfl ?_
            refine e_iload_n dX12_readText_154 rfl ?_
            refine z_if_ne 165 dX12_readText_155 rfl ⟨by omega, by omega⟩ (fun c78 => ?_) (fun c78 => ?_)
            · skip
              refine e_aload_n dX12_readText_165 rfl ?_
              refine z_get (runF 1 T L n) dX12_readText_166 tf_12_149 (rk_s k72) (Or.inl rfl) H75.1 ?_
              have y79 := H75.2.2
              refine z_if_le 179 dX12_readText_169 rfl ⟨by omega, by omega⟩ (fun c80 => ?_) (fun c80 => ?_)
              · skip
                refine z_iconst (-1) dX12_readText_179 rfl ?_
                refine z_ist dX12_readText_180 (rk_a4 k72) (by decide) (by omega) (by omega) (fun h81 e82 => ?_)
                have f83 := frm_1 e82
                have k84 := rk_q (frm_s f83) k72
                have H85 := rfT_c f83 (fun a k q => by omega) H73
                have H86 := rfP_c f83 (fun a k q => by omega) H74
                have H87 := rfF_c f83 (fun a k q => by omega) H75
                have H88 := rfC_c f83 (fun a k q => by omega) H76
                have FR89 := frm_t FR77 (frm_m (S' := (fun a j => (a = m ∧ (j = 9 ∨ (11 ≤ j ∧ j ≤ 17) ∨ (20 ≤ j ∧ j ≤ 22))) ∨ a = m + 9 ∨ a = m + 10 ∨ ((a = m + 3 ∨ a = m + 4) ∧ j = 0))) f83 (fun a k q => by omega))
                refine e_aload_n dX12_readText_181 rfl ?_
                refine e_get (.ref (m + 3)) dX12_readText_182 tf_12_17 (rk_s k84) (congrArg va_rf (rk_r3 k84)) ?_
                refine z_iconst (0) dX12_readText_185 rfl ?_
                refine z_ild (runF 1 T L n) dX12_readText_186 (rk_a3 k84) (by decide) (by omega) (by omega) ((frm_r f83 (by omega)).trans (rI_eq e70 ⟨by omega, by omega⟩)) ?_
                refine z_if_ne 194 dX12_readText_187 rfl ⟨by omega, by omega⟩ (fun c90 => ?_) (fun c90 => ?_)
                · skip
                  refine z_iconst (0) dX12_readText_194 rfl ?_
                  refine z_bret dX12_readText_195 rfl (Or.inl rfl) ⟨rfl, ?_⟩
                  exact kq 0 (Or.inl rfl) _ FR89 (Or.inl ⟨n, OK, k3, ⟨(((frm_r f83 (by omega)).trans (rI_eq e70 ⟨by omega, by omega⟩))).trans (by omega), ((rI_eq e82 ⟨by omega, by omega⟩)).trans (by omega)⟩, H88, Or.inr ⟨rfl, by omega⟩⟩)
                · skip
                  refine z_iconst (1) dX12_readText_190 rfl ?_
                  refine e_goto 195 dX12_readText_191 rfl ?_
                  refine z_bret dX12_readText_195 rfl (Or.inr rfl) ⟨rfl, ?_⟩
                  exact kq 1 (Or.inr rfl) _ FR89 (Or.inl ⟨n, OK, k3, ⟨(((frm_r f83 (by omega)).trans (rI_eq e70 ⟨by omega, by omega⟩))).trans (by omega), ((rI_eq e82 ⟨by omega, by omega⟩)).trans (by omega)⟩, H88, Or.inl ⟨rfl, by omega⟩⟩)
              · skip
                refine e_aload_n dX12_readText_172 rfl ?_
                refine z_get (runQ 1 T L n) dX12_readText_173 tf_12_152 (rk_s k72) (Or.inl rfl) (H75.2.1 (by omega)) ?_
                refine e_goto 180 dX12_readText_176 rfl ?_
                refine z_ist dX12_readText_180 (rk_a4 k72) (by decide) (by omega) (by omega) (fun h91 e92 => ?_)
                have f93 := frm_1 e92
                have k94 := rk_q (frm_s f93) k72
                have H95 := rfT_c f93 (fun a k q => by omega) H73
                have H96 := rfP_c f93 (fun a k q => by omega) H74
                have H97 := rfF_c f93 (fun a k q => by omega) H75
                have H98 := rfC_c f93 (fun a k q => by omega) H76
                have FR99 := frm_t FR77 (frm_m (S' := (fun a j => (a = m ∧ (j = 9 ∨ (11 ≤ j ∧ j ≤ 17) ∨ (20 ≤ j ∧ j ≤ 22))) ∨ a = m + 9 ∨ a = m + 10 ∨ ((a = m + 3 ∨ a = m + 4) ∧ j = 0))) f93 (fun a k q => by omega))
                refine e_aload_n dX12_readText_181 rfl ?_
                refine e_get (.ref (m + 3)) dX12_readText_182 tf_12_17 (rk_s k94) (congrArg va_rf (rk_r3 k94)) ?_
                refine z_iconst (0) dX12_readText_185 rfl ?_
                refine z_ild (runF 1 T L n) dX12_readText_186 (rk_a3 k94) (by decide) (by omega) (by omega) ((frm_r f93 (by omega)).trans (rI_eq e70 ⟨by omega, by omega⟩)) ?_
                refine z_if_ne 194 dX12_readText_187 rfl ⟨by omega, by omega⟩ (fun c100 => ?_) (fun c100 => ?_)
                · skip
                  refine z_iconst (0) dX12_readText_194 rfl ?_
                  refine z_bret dX12_readText_195 rfl (Or.inl rfl) ⟨rfl, ?_⟩
                  exact kq 0 (Or.inl rfl) _ FR99 (Or.inl ⟨n, OK, k3, ⟨(((frm_r f93 (by omega)).trans (rI_eq e70 ⟨by omega, by omega⟩))).trans (by omega), ((rI_eq e92 ⟨by omega, by omega⟩)).trans (by omega)⟩, H98, Or.inr ⟨rfl, by omega⟩⟩)
                · skip
                  refine z_iconst (1) dX12_readText_190 rfl ?_
                  refine e_goto 195 dX12_readText_191 rfl ?_
                  refine z_bret dX12_readText_195 rfl (Or.inr rfl) ⟨rfl, ?_⟩
                  exact kq 1 (Or.inr rfl) _ FR99 (Or.inl ⟨n, OK, k3, ⟨(((frm_r f93 (by omega)).trans (rI_eq e70 ⟨by omega, by omega⟩))).trans (by omega), ((rI_eq e92 ⟨by omega, by omega⟩)).trans (by omega)⟩, H98, Or.inl ⟨rfl, by omega⟩⟩)
            · exfalso; omega
        · exfalso; omega
    · skip
      refine e_aload_n dX12_readText_8 rfl ?_
      refine e_get (.ref (m + 9)) dX12_readText_9 tf_12_35 (rk_s k2) (congrArg va_rf (rk_r9 k2)) ?_
      refine e_iload_n dX12_readText_12 rfl ?_
      refine e_iload_n dX12_readText_13 rfl ?_
      refine z_if_ne 43 dX12_readText_14 rfl ⟨by omega, by omega⟩ (fun c101 => ?_) (fun c101 => ?_)
      · skip
        refine z_iconst (0) dX12_readText_43 rfl ?_
        refine z_ist dX12_readText_44 (rk_a9 k2) (by decide) (by omega) (by omega) (fun h102 e103 => ?_)
        have f104 := frm_1 e103
        have k105 := rk_q (frm_s f104) k2
        have H106 := rfT_c f104 (fun a k q => by omega) H3
        have FR107 := frm_t FR4 (frm_m (S' := (fun a j => (a = m ∧ (j = 9 ∨ (11 ≤ j ∧ j ≤ 17) ∨ (20 ≤ j ∧ j ≤ 22))) ∨ a = m + 9 ∨ a = m + 10 ∨ ((a = m + 3 ∨ a = m + 4) ∧ j = 0))) f104 (fun a k q => by omega))
        refine z_iinc (L' := [_, _, _]) dX12_readText_45 rfl rfl ?_
        refine e_goto 2 dX12_readText_48 rfl ?_
        exact ih1 _ (by omega) (i + 1) h102 rfl k105 H106 FR107 (by omega) (fun k a z => by
          by_cases q : k = i
          · rw [q]; exact ((rI_eq e103 ⟨by omega, by omega⟩)).trans (by unfold ini0; first | rw [if_pos (by omega)] | rw [if_neg (by omega)])
          · exact ((frm_r f104 (by omega))).trans (I2 k a (by omega)))
      · exfalso; omega
  exact lp1 _ 0 h rfl hk HT FR0 (by omega) (fun k a z => by omega)
set_option maxHeartbeats 4000000 in
theorem zp_X12_readText_2 {ad : mA} {dd : Nat} {h : mH} {Q : mQ} {m : Nat} {T : Int → Int} {L : Int} (hk : rk h m) (HT : rfT h m T L)    (kq : ∀ v : Int, (v = 0 ∨ v = 1) → ∀ h1, frm (fun a j => (a = m ∧ (j = 9 ∨ (11 ≤ j ∧ j ≤ 17) ∨ (20 ≤ j ∧ j ≤ 22))) ∨ a = m + 9 ∨ a = m + 10 ∨ ((a = m + 3 ∨ a = m + 4) ∧ j = 0)) h h1 → (rtO h1 m 2 T L v) → Q (some (.int (zI v))) h1) : mCal TB0 ad (dd + 8) M_X12_readText [.ref m, .int (zI 2)] h 0 0 Q := by
  refine ⟨Nat.le_of_ble_eq_true rfl, ?_⟩
  show mEv TB0 ad M_X12_readText (dd + 8) (0, 0) (mCal TB0 ad (dd + 7)) (fun v h' z => z.1 = 0 ∧ Q v h') 0 [some (.ref m), some (.int (zI 2)), none] [] h (0, 0)
  have FR0 : frm (fun a j => (a = m ∧ (j = 9 ∨ (11 ≤ j ∧ j ≤ 17) ∨ (20 ≤ j ∧ j ≤ 22))) ∨ a = m + 9 ∨ a = m + 10 ∨ ((a = m + 3 ∨ a = m + 4) ∧ j = 0)) h h := frm_0 h
  have w1 := HT.1
  refine z_iconst (0) dX12_readText_0 rfl ?_
  refine e_istore_n (L' := [_, _, _]) dX12_readText_1 (Nat.le_of_ble_eq_true rfl) rfl ?_
  have lp1 : ∀ (n1 : Nat) (i : Int) (h1 : mH), (121 - i).toNat = n1 → (rk h1 m) → (rfT h1 m T L) → (frm (fun a j => (a = m ∧ (j = 9 ∨ (11 ≤ j ∧ j ≤ 17) ∨ (20 ≤ j ∧ j ≤ 22))) ∨ a = m + 9 ∨ a = m + 10 ∨ ((a = m + 3 ∨ a = m + 4) ∧ j = 0)) h h1) → (0 ≤ i ∧ i ≤ 121) → (∀ k : Int, 0 ≤ k → k < i → rI h1 (m + 9) k = ini0 2 k) → mEv TB0 ad M_X12_readText (dd + 8) (0, 0) (mCal TB0 ad (dd + 7)) (fun v h' z => z.1 = 0 ∧ Q v h') 2 [some (.ref m), some (.int (zI 2)), some (.int (zI i))] [] h1 (0, 0) := by
    intro n1
    induction n1 using Nat.strongRecOn with
    | ind n1 ih1 =>
    intro i h1 hn1 k2 H3 FR4 I1 I2
    refine e_iload_n dX12_readText_2 rfl ?_
    refine z_bipush (121) dX12_readText_3 rfl ?_
    refine z_icmp_ge 51 dX12_readText_5 rfl ⟨by omega, by omega⟩ ⟨by omega, by omega⟩ (fun c5 => ?_) (fun c5 => ?_)
    · skip
      have RC : rfC h1 m (ini0 2) := fun k a z => I2 k a (by omega)
      refine e_aload_n dX12_readText_51 rfl ?_
      refine z_iconst (-1) dX12_readText_52 rfl ?_
      refine z_put dX12_readText_53 tf_12_173 (rk_s k2) rfl (Or.inl rfl) (fun h6 e7 => ?_)
      have f8 := frm_1 e7
      have k9 := rk_q (frm_s f8) k2
      have H10 := rfT_c f8 (fun a k q => by omega) H3
      have H11 := rfC_c f8 (fun a k q => by omega) RC
      have FR12 := frm_t FR4 (frm_m (S' := (fun a j => (a = m ∧ (j = 9 ∨ (11 ≤ j ∧ j ≤ 17) ∨ (20 ≤ j ∧ j ≤ 22))) ∨ a = m + 9 ∨ a = m + 10 ∨ ((a = m + 3 ∨ a = m + 4) ∧ j = 0))) f8 (fun a k q => by omega))
      refine e_aload_n dX12_readText_56 rfl ?_
      refine z_iconst (-1) dX12_readText_57 rfl ?_
      refine z_put dX12_readText_58 tf_12_180 (rk_s k9) rfl (Or.inl rfl) (fun h13 e14 => ?_)
      have f15 := frm_1 e14
      have k16 := rk_q (frm_s f15) k9
      have H17 := rfT_c f15 (fun a k q => by omega) H10
      have H18 := rfC_c f15 (fun a k q => by omega) H11
      have FR19 := frm_t FR12 (frm_m (S' := (fun a j => (a = m ∧ (j = 9 ∨ (11 ≤ j ∧ j ≤ 17) ∨ (20 ≤ j ∧ j ≤ 22))) ∨ a = m + 9 ∨ a = m + 10 ∨ ((a = m + 3 ∨ a = m + 4) ∧ j = 0))) f15 (fun a k q => by omega))
      refine e_aload_n dX12_readText_61 rfl ?_
      refine z_iconst (0) dX12_readText_62 rfl ?_
      refine z_put dX12_readText_63 tf_12_123 (rk_s k16) rfl (Or.inl rfl) (fun h20 e21 => ?_)
      have f22 := frm_1 e21
      have k23 := rk_q (frm_s f22) k16
      have H24 := rfT_c f22 (fun a k q => by omega) H17
      have H25 := rfC_c f22 (fun a k q => by omega) H18
      have FR26 := frm_t FR19 (frm_m (S' := (fun a j => (a = m ∧ (j = 9 ∨ (11 ≤ j ∧ j ≤ 17) ∨ (20 ≤ j ∧ j ≤ 22))) ∨ a = m + 9 ∨ a = m + 10 ∨ ((a = m + 3 ∨ a = m + 4) ∧ j = 0))) f22 (fun a k q => by omega))
      refine e_aload_n dX12_readText_66 rfl ?_
      refine z_iconst (0) dX12_readText_67 rfl ?_
      refine z_put dX12_readText_68 tf_12_149 (rk_s k23) rfl (Or.inl rfl) (fun h27 e28 => ?_)
      have f29 := frm_1 e28
      have k30 := rk_q (frm_s f29) k23
      have H31 := rfT_c f29 (fun a k q => by omega) H24
      have H32 := rfC_c f29 (fun a k q => by omega) H25
      have FR33 := frm_t FR26 (frm_m (S' := (fun a j => (a = m ∧ (j = 9 ∨ (11 ≤ j ∧ j ≤ 17) ∨ (20 ≤ j ∧ j ≤ 22))) ∨ a = m + 9 ∨ a = m + 10 ∨ ((a = m + 3 ∨ a = m + 4) ∧ j = 0))) f29 (fun a k q => by omega))
      have RF : rfF h27 m 0 (-1) := ⟨(rI_eq e28 ⟨by omega, by omega⟩), fun z => absurd rfl z, by omega⟩
      have PA72 : rI h27 m 9 = 0 := ((frm_r f29 (by omega)).trans (rI_eq e21 ⟨by omega, by omega⟩))
      refine e_aload_n dX12_readText_71 rfl ?_
      refine e_callV [] dX12_readText_72 tm_12_167 rfl (Nat.le_of_ble_eq_true rfl) (rk_s k30) (Nat.le_of_ble_eq_true rfl) (Nat.le_refl _) (Nat.le_refl _) rfl (zp_X12_token k30 H31 0 PA72 (by omega) (fun  h34 f35 p36 => ?_))
      have k37 := rk_q (frm_s f35) k30
      have H38 := rfT_c f35 (fun a k q => by omega) H31
      have H39 := rfC_c f35 (fun a k q => by omega) H32
      have H40 := rfF_c f35 (fun a k q => by omega) RF
      have FR41 := frm_t FR33 (frm_m (S' := (fun a j => (a = m ∧ (j = 9 ∨ (11 ≤ j ∧ j ≤ 17) ∨ (20 ≤ j ∧ j ≤ 22))) ∨ a = m + 9 ∨ a = m + 10 ∨ ((a = m + 3 ∨ a = m + 4) ∧ j = 0))) f35 (fun a k q => by omega))
      refine e_aload_n dX12_readText_75 rfl ?_
      refine e_iload_n dX12_readText_76 rfl ?_
      refine e_callV [.int _] dX12_readText_77 tm_12_251 rfl (Nat.le_of_ble_eq_true rfl) (rk_s k37) (Nat.le_of_ble_eq_true rfl) (Nat.le_refl _) (Nat.le_refl _) rfl (zp_X12_lines_2 k37 H38 p36 H40 H39 (fun v42 p43 h44 f45 p46 => ?_))
      have k47 := rk_q (frm_s f45) k37
      have H48 := rfT_c f45 (fun a k q => by omega) H38
      have FR49 := frm_t FR41 (frm_m (S' := (fun a j => (a = m ∧ (j = 9 ∨ (11 ≤ j ∧ j ≤ 17) ∨ (20 ≤ j ∧ j ≤ 22))) ∨ a = m + 9 ∨ a = m + 10 ∨ ((a = m + 3 ∨ a = m + 4) ∧ j = 0))) f45 (fun a k q => by omega))
      skip
      refine e_istore_n (L' := [_, _, _]) dX12_readText_80 (Nat.le_of_ble_eq_true rfl) rfl ?_
      refine e_iload_n dX12_readText_81 rfl ?_
      refine z_if_eq 131 dX12_readText_82 rfl ⟨by omega, by omega⟩ (fun c50 => ?_) (fun c50 => ?_)
      · skip
        obtain ⟨n, OK, k3, A0, X0⟩ := lso_0 p46 (by omega)
        have ob := okN_b w1.1 n OK
        have lb := lx_b (s := 2) (T := T) (L := L) ⟨ob.1, ob.2.1⟩
        skip
        refine e_aload_n dX12_readText_131 rfl ?_
        refine e_get (.ref (m + 3)) dX12_readText_132 tf_12_17 (rk_s k47) (congrArg va_rf (rk_r3 k47)) ?_
        refine z_iconst (0) dX12_readText_135 rfl ?_
        refine e_iload_n dX12_readText_136 rfl ?_
        refine z_if_eq 147 dX12_readText_137 rfl ⟨by omega, by omega⟩ (fun c51 => ?_) (fun c51 => ?_)
        · skip
          refine z_iconst (1) dX12_readText_147 rfl ?_
          refine z_ist dX12_readText_148 (rk_a3 k47) (by decide) (by omega) (by omega) (fun h52 e53 => ?_)
          have f54 := frm_1 e53
          have k55 := rk_q (frm_s f54) k47
          have H56 := rfT_c f54 (fun a k q => by omega) H48
          have FR57 := frm_t FR49 (frm_m (S' := (fun a j => (a = m ∧ (j = 9 ∨ (11 ≤ j ∧ j ≤ 17) ∨ (20 ≤ j ∧ j ≤ 22))) ∨ a = m + 9 ∨ a = m + 10 ∨ ((a = m + 3 ∨ a = m + 4) ∧ j = 0))) f54 (fun a k q => by omega))
          refine e_aload_n dX12_readText_149 rfl ?_
          refine e_get (.ref (m + 4)) dX12_readText_150 tf_12_20 (rk_s k55) (congrArg va_rf (rk_r4 k55)) ?_
          refine z_iconst (0) dX12_readText_153 rfl ?_
          refine e_iload_n dX12_readText_154 rfl ?_
          refine z_if_ne 165 dX12_readText_155 rfl ⟨by omega, by omega⟩ (fun c58 => ?_) (fun c58 => ?_)
          · exfalso; omega
          · skip
            refine e_aload_n dX12_readText_158 rfl ?_
            refine z_get (lnX 2 T L (runP 2 T L n)) dX12_readText_159 tf_12_146 (rk_s k55) (Or.inl rfl) (((frm_r f54 (by omega))).trans X0) ?_
            refine e_goto 180 dX12_readText_162 rfl ?_
            refine z_ist dX12_readText_180 (rk_a4 k55) (by decide) (by omega) (by omega) (fun h59 e60 => ?_)
            have f61 := frm_1 e60
            have k62 := rk_q (frm_s f61) k55
            have H63 := rfT_c f61 (fun a k q => by omega) H56
            have FR64 := frm_t FR57 (frm_m (S' := (fun a j => (a = m ∧ (j = 9 ∨ (11 ≤ j ∧ j ≤ 17) ∨ (20 ≤ j ∧ j ≤ 22))) ∨ a = m + 9 ∨ a = m + 10 ∨ ((a = m + 3 ∨ a = m + 4) ∧ j = 0))) f61 (fun a k q => by omega))
            refine e_aload_n dX12_readText_181 rfl ?_
            refine e_get (.ref (m + 3)) dX12_readText_182 tf_12_17 (rk_s k62) (congrArg va_rf (rk_r3 k62)) ?_
            refine z_iconst (0) dX12_readText_185 rfl ?_
            refine z_ild 1 dX12_readText_186 (rk_a3 k62) (by decide) (by omega) (by omega) ((frm_r f61 (by omega)).trans (rI_eq e53 ⟨by omega, by omega⟩)) ?_
            refine z_if_ne 194 dX12_readText_187 rfl ⟨by omega, by omega⟩ (fun c65 => ?_) (fun c65 => ?_)
            · skip
              refine z_iconst (0) dX12_readText_194 rfl ?_
              refine z_bret dX12_readText_195 rfl (Or.inl rfl) ⟨rfl, ?_⟩
              exact kq 0 (Or.inl rfl) _ FR64 (Or.inr ⟨rfl, n, OK, k3, A0, ((frm_r f61 (by omega)).trans (rI_eq e53 ⟨by omega, by omega⟩)), (rI_eq e60 ⟨by omega, by omega⟩)⟩)
            · exfalso; omega
        · exfalso; omega
      · skip
        obtain ⟨n, OK, k3, P1, F1, N1, C1, D0⟩ := lso_1 p46 (by omega)
        have p1 := P1.1
        have nb1 := N1.1
        have nb2 := N1.2.1
        have tz := tk_b (T := T) p1.1 p1.2
        have rq := rn_q (s := 2) (T := T) (L := L) n
        refine e_iload_n dX12_readText_85 rfl ?_
        refine z_if_ne 131 dX12_readText_86 rfl ⟨by omega, by omega⟩ (fun c66 => ?_) (fun c66 => ?_)
        · skip
          have FE := fe_n (s := 2) (T := T) (L := L) (n := n) (fun z => absurd z.1.1 (by omega))
          refine e_aload_n dX12_readText_131 rfl ?_
          refine e_get (.ref (m + 3)) dX12_readText_132 tf_12_17 (rk_s k47) (congrArg va_rf (rk_r3 k47)) ?_
          refine z_iconst (0) dX12_readText_135 rfl ?_
          refine e_iload_n dX12_readText_136 rfl ?_
          refine z_if_eq 147 dX12_readText_137 rfl ⟨by omega, by omega⟩ (fun c67 => ?_) (fun c67 => ?_)
          · exfalso; omega
          · skip
            refine e_aload_n dX12_readText_140 rfl ?_
            refine z_get (runF 2 T L n) dX12_readText_141 tf_12_149 (rk_s k47) (Or.inl rfl) F1.1 ?_
            have y68 := F1.2.2
            refine e_goto 148 dX12_readText_144 rfl ?_
            refine z_ist dX12_readText_148 (rk_a3 k47) (by decide) (by omega) (by omega) (fun h69 e70 => ?_)
            have f71 := frm_1 e70
            have k72 := rk_q (frm_s f71) k47
            have H73 := rfT_c f71 (fun a k q => by omega) H48
            have H74 := rfP_c f71 (fun a k q => by omega) P1
            have H75 := rfF_c f71 (fun a k q => by omega) F1
            have H76 := rfC_c f71 (fun a k q => by omega) C1
            have FR77 := frm_t FR49 (frm_m (S' := (fun a j => (a = m ∧ (j = 9 ∨ (11 ≤ j ∧ j ≤ 17) ∨ (20 ≤ j ∧ j ≤ 22))) ∨ a = m + 9 ∨ a = m + 10 ∨ ((a = m + 3 ∨ a = m + 4) ∧ j = 0))) f71 (fun a k q => by omega))
            refine e_aload_n dX12_readText_149 rfl ?_
            refine e_get (.ref (m + 4)) dX12_readText_150 tf_12_20 (rk_s k72) (congrArg va_rf (rk_r4 k72)) ?_
            refine z_iconst (0) dX12_readText_153 rfl ?_
            refine e_iload_n dX12_readText_154 rfl ?_
            refine z_if_ne 165 dX12_readText_155 rfl ⟨by omega, by omega⟩ (fun c78 => ?_) (fun c78 => ?_)
            · skip
              refine e_aload_n dX12_readText_165 rfl ?_
              refine z_get (runF 2 T L n) dX12_readText_166 tf_12_149 (rk_s k72) (Or.inl rfl) H75.1 ?_
              have y79 := H75.2.2
              refine z_if_le 179 dX12_readText_169 rfl ⟨by omega, by omega⟩ (fun c80 => ?_) (fun c80 => ?_)
              · skip
                refine z_iconst (-1) dX12_readText_179 rfl ?_
                refine z_ist dX12_readText_180 (rk_a4 k72) (by decide) (by omega) (by omega) (fun h81 e82 => ?_)
                have f83 := frm_1 e82
                have k84 := rk_q (frm_s f83) k72
                have H85 := rfT_c f83 (fun a k q => by omega) H73
                have H86 := rfP_c f83 (fun a k q => by omega) H74
                have H87 := rfF_c f83 (fun a k q => by omega) H75
                have H88 := rfC_c f83 (fun a k q => by omega) H76
                have FR89 := frm_t FR77 (frm_m (S' := (fun a j => (a = m ∧ (j = 9 ∨ (11 ≤ j ∧ j ≤ 17) ∨ (20 ≤ j ∧ j ≤ 22))) ∨ a = m + 9 ∨ a = m + 10 ∨ ((a = m + 3 ∨ a = m + 4) ∧ j = 0))) f83 (fun a k q => by omega))
                refine e_aload_n dX12_readText_181 rfl ?_
                refine e_get (.ref (m + 3)) dX12_readText_182 tf_12_17 (rk_s k84) (congrArg va_rf (rk_r3 k84)) ?_
                refine z_iconst (0) dX12_readText_185 rfl ?_
                refine z_ild (runF 2 T L n) dX12_readText_186 (rk_a3 k84) (by decide) (by omega) (by omega) ((frm_r f83 (by omega)).trans (rI_eq e70 ⟨by omega, by omega⟩)) ?_
                refine z_if_ne 194 dX12_readText_187 rfl ⟨by omega, by omega⟩ (fun c90 => ?_) (fun c90 => ?_)
                · skip
                  refine z_iconst (0) dX12_readText_194 rfl ?_
                  refine z_bret dX12_readText_195 rfl (Or.inl rfl) ⟨rfl, ?_⟩
                  exact kq 0 (Or.inl rfl) _ FR89 (Or.inl ⟨n, OK, k3, ⟨(((frm_r f83 (by omega)).trans (rI_eq e70 ⟨by omega, by omega⟩))).trans (by omega), ((rI_eq e82 ⟨by omega, by omega⟩)).trans (by omega)⟩, H88, Or.inr ⟨rfl, by omega⟩⟩)
                · skip
                  refine z_iconst (1) dX12_readText_190 rfl ?_
                  refine e_goto 195 dX12_readText_191 rfl ?_
                  refine z_bret dX12_readText_195 rfl (Or.inr rfl) ⟨rfl, ?_⟩
                  exact kq 1 (Or.inr rfl) _ FR89 (Or.inl ⟨n, OK, k3, ⟨(((frm_r f83 (by omega)).trans (rI_eq e70 ⟨by omega, by omega⟩))).trans (by omega), ((rI_eq e82 ⟨by omega, by omega⟩)).trans (by omega)⟩, H88, Or.inl ⟨rfl, by omega⟩⟩)
              · skip
                refine e_aload_n dX12_readText_172 rfl ?_
                refine z_get (runQ 2 T L n) dX12_readText_173 tf_12_152 (rk_s k72) (Or.inl rfl) (H75.2.1 (by omega)) ?_
                refine e_goto 180 dX12_readText_176 rfl ?_
                refine z_ist dX12_readText_180 (rk_a4 k72) (by decide) (by omega) (by omega) (fun h91 e92 => ?_)
                have f93 := frm_1 e92
                have k94 := rk_q (frm_s f93) k72
                have H95 := rfT_c f93 (fun a k q => by omega) H73
                have H96 := rfP_c f93 (fun a k q => by omega) H74
                have H97 := rfF_c f93 (fun a k q => by omega) H75
                have H98 := rfC_c f93 (fun a k q => by omega) H76
                have FR99 := frm_t FR77 (frm_m (S' := (fun a j => (a = m ∧ (j = 9 ∨ (11 ≤ j ∧ j ≤ 17) ∨ (20 ≤ j ∧ j ≤ 22))) ∨ a = m + 9 ∨ a = m + 10 ∨ ((a = m + 3 ∨ a = m + 4) ∧ j = 0))) f93 (fun a k q => by omega))
                refine e_aload_n dX12_readText_181 rfl ?_
                refine e_get (.ref (m + 3)) dX12_readText_182 tf_12_17 (rk_s k94) (congrArg va_rf (rk_r3 k94)) ?_
                refine z_iconst (0) dX12_readText_185 rfl ?_
                refine z_ild (runF 2 T L n) dX12_readText_186 (rk_a3 k94) (by decide) (by omega) (by omega) ((frm_r f93 (by omega)).trans (rI_eq e70 ⟨by omega, by omega⟩)) ?_
                refine z_if_ne 194 dX12_readText_187 rfl ⟨by omega, by omega⟩ (fun c100 => ?_) (fun c100 => ?_)
                · skip
                  refine z_iconst (0) dX12_readText_194 rfl ?_
                  refine z_bret dX12_readText_195 rfl (Or.inl rfl) ⟨rfl, ?_⟩
                  exact kq 0 (Or.inl rfl) _ FR99 (Or.inl ⟨n, OK, k3, ⟨(((frm_r f93 (by omega)).trans (rI_eq e70 ⟨by omega, by omega⟩))).trans (by omega), ((rI_eq e92 ⟨by omega, by omega⟩)).trans (by omega)⟩, H98, Or.inr ⟨rfl, by omega⟩⟩)
                · skip
                  refine z_iconst (1) dX12_readText_190 rfl ?_
                  refine e_goto 195 dX12_readText_191 rfl ?_
                  refine z_bret dX12_readText_195 rfl (Or.inr rfl) ⟨rfl, ?_⟩
                  exact kq 1 (Or.inr rfl) _ FR99 (Or.inl ⟨n, OK, k3, ⟨(((frm_r f93 (by omega)).trans (rI_eq e70 ⟨by omega, by omega⟩))).trans (by omega), ((rI_eq e92 ⟨by omega, by omega⟩)).trans (by omega)⟩, H98, Or.inl ⟨rfl, by omega⟩⟩)
            · exfalso; omega
        · exfalso; omega
    · skip
      refine e_aload_n dX12_readText_8 rfl ?_
      refine e_get (.ref (m + 9)) dX12_readText_9 tf_12_35 (rk_s k2) (congrArg va_rf (rk_r9 k2)) ?_
      refine e_iload_n dX12_readText_12 rfl ?_
      refine e_iload_n dX12_readText_13 rfl ?_
      refine z_if_ne 43 dX12_readText_14 rfl ⟨by omega, by omega⟩ (fun c101 => ?_) (fun c101 => ?_)
      · skip
        refine z_iconst (0) dX12_readText_43 rfl ?_
        refine z_ist dX12_readText_44 (rk_a9 k2) (by decide) (by omega) (by omega) (fun h102 e103 => ?_)
        have f104 := frm_1 e103
        have k105 := rk_q (frm_s f104) k2
        have H106 := rfT_c f104 (fun a k q => by omega) H3
        have FR107 := frm_t FR4 (frm_m (S' := (fun a j => (a = m ∧ (j = 9 ∨ (11 ≤ j ∧ j ≤ 17) ∨ (20 ≤ j ∧ j ≤ 22))) ∨ a = m + 9 ∨ a = m + 10 ∨ ((a = m + 3 ∨ a = m + 4) ∧ j = 0))) f104 (fun a k q => by omega))
        refine z_iinc (L' := [_, _, _]) dX12_readText_45 rfl rfl ?_
        refine e_goto 2 dX12_readText_48 rfl ?_
        exact ih1 _ (by omega) (i + 1) h102 rfl k105 H106 FR107 (by omega) (fun k a z => by
          by_cases q : k = i
          · rw [q]; exact ((rI_eq e103 ⟨by omega, by omega⟩)).trans (by unfold ini0; first | rw [if_pos (by omega)] | rw [if_neg (by omega)])
          · exact ((frm_r f104 (by omega))).trans (I2 k a (by omega)))
      · exfalso; omega
  exact lp1 _ 0 h rfl hk HT FR0 (by omega) (fun k a z => by omega)
