/-! SEASON: a year -/
theorem dX7_live_0 : decode cX7_live 0 = .ok (.aload_n 0, 1) := by decide +kernel
theorem dX7_live_1 : decode cX7_live 1 = .ok (.aload_n 1, 1) := by decide +kernel
theorem dX7_live_2 : decode cX7_live 2 = .ok (.invokevirtual 53, 3) := by decide +kernel
theorem dX7_live_5 : decode cX7_live 5 = .ok (.iconst 0, 1) := by decide +kernel
theorem dX7_live_6 : decode cX7_live 6 = .ok (.istore 4, 2) := by decide +kernel
theorem dX7_live_8 : decode cX7_live 8 = .ok (.iload 4, 2) := by decide +kernel
theorem dX7_live_10 : decode cX7_live 10 = .ok (.iload_n 3, 1) := by decide +kernel
theorem dX7_live_11 : decode cX7_live 11 = .ok (.if_icmp .ge 53, 3) := by decide +kernel
theorem dX7_live_14 : decode cX7_live 14 = .ok (.iload 4, 2) := by decide +kernel
theorem dX7_live_16 : decode cX7_live 16 = .ok (.aload_n 2, 1) := by decide +kernel
theorem dX7_live_17 : decode cX7_live 17 = .ok (.getfield 56, 3) := by decide +kernel
theorem dX7_live_20 : decode cX7_live 20 = .ok (.if_icmp .ge 44, 3) := by decide +kernel
theorem dX7_live_23 : decode cX7_live 23 = .ok (.iload 4, 2) := by decide +kernel
theorem dX7_live_25 : decode cX7_live 25 = .ok (.bipush 40, 2) := by decide +kernel
theorem dX7_live_27 : decode cX7_live 27 = .ok (.if_icmp .ge 37, 3) := by decide +kernel
theorem dX7_live_30 : decode cX7_live 30 = .ok (.aload_n 0, 1) := by decide +kernel
theorem dX7_live_31 : decode cX7_live 31 = .ok (.aload_n 2, 1) := by decide +kernel
theorem dX7_live_32 : decode cX7_live 32 = .ok (.getfield 61, 3) := by decide +kernel
theorem dX7_live_35 : decode cX7_live 35 = .ok (.iload 4, 2) := by decide +kernel
theorem dX7_live_37 : decode cX7_live 37 = .ok (.iaload, 1) := by decide +kernel
theorem dX7_live_38 : decode cX7_live 38 = .ok (.aload_n 2, 1) := by decide +kernel
theorem dX7_live_39 : decode cX7_live 39 = .ok (.getfield 65, 3) := by decide +kernel
theorem dX7_live_42 : decode cX7_live 42 = .ok (.iload 4, 2) := by decide +kernel
theorem dX7_live_44 : decode cX7_live 44 = .ok (.iaload, 1) := by decide +kernel
theorem dX7_live_45 : decode cX7_live 45 = .ok (.aload_n 2, 1) := by decide +kernel
theorem dX7_live_46 : decode cX7_live 46 = .ok (.getfield 68, 3) := by decide +kernel
theorem dX7_live_49 : decode cX7_live 49 = .ok (.iload 4, 2) := by decide +kernel
theorem dX7_live_51 : decode cX7_live 51 = .ok (.iaload, 1) := by decide +kernel
theorem dX7_live_52 : decode cX7_live 52 = .ok (.invokevirtual 71, 3) := by decide +kernel
theorem dX7_live_55 : decode cX7_live 55 = .ok (.ifCond .eq 9, 3) := by decide +kernel
theorem dX7_live_58 : decode cX7_live 58 = .ok (.iinc 4 1, 3) := by decide +kernel
theorem dX7_live_61 : decode cX7_live 61 = .ok (.goto (-53), 3) := by decide +kernel
theorem dX7_live_64 : decode cX7_live 64 = .ok (.iload 4, 2) := by decide +kernel
theorem dX7_live_66 : decode cX7_live 66 = .ok (.ireturn, 1) := by decide +kernel
theorem dX7_tell_0 : decode cX7_tell 0 = .ok (.iload_n 1, 1) := by decide +kernel
theorem dX7_tell_1 : decode cX7_tell 1 = .ok (.ifCond .ge 6, 3) := by decide +kernel
theorem dX7_tell_4 : decode cX7_tell 4 = .ok (.bipush (-2), 2) := by decide +kernel
theorem dX7_tell_6 : decode cX7_tell 6 = .ok (.ireturn, 1) := by decide +kernel
theorem dX7_tell_7 : decode cX7_tell 7 = .ok (.iload_n 1, 1) := by decide +kernel
theorem dX7_tell_8 : decode cX7_tell 8 = .ok (.bipush 10, 2) := by decide +kernel
theorem dX7_tell_10 : decode cX7_tell 10 = .ok (.irem, 1) := by decide +kernel
theorem dX7_tell_11 : decode cX7_tell 11 = .ok (.istore_n 2, 1) := by decide +kernel
theorem dX7_tell_12 : decode cX7_tell 12 = .ok (.iload_n 1, 1) := by decide +kernel
theorem dX7_tell_13 : decode cX7_tell 13 = .ok (.bipush 10, 2) := by decide +kernel
theorem dX7_tell_15 : decode cX7_tell 15 = .ok (.idiv, 1) := by decide +kernel
theorem dX7_tell_16 : decode cX7_tell 16 = .ok (.tableswitch 111 0 5 #[40, 46, 59, 72, 85, 98], 40) := by decide +kernel
theorem dX7_tell_56 : decode cX7_tell 56 = .ok (.aload_n 0, 1) := by decide +kernel
theorem dX7_tell_57 : decode cX7_tell 57 = .ok (.iload_n 2, 1) := by decide +kernel
theorem dX7_tell_58 : decode cX7_tell 58 = .ok (.invokevirtual 171, 3) := by decide +kernel
theorem dX7_tell_61 : decode cX7_tell 61 = .ok (.ireturn, 1) := by decide +kernel
theorem dX7_tell_62 : decode cX7_tell 62 = .ok (.aload_n 0, 1) := by decide +kernel
theorem dX7_tell_63 : decode cX7_tell 63 = .ok (.getfield 12, 3) := by decide +kernel
theorem dX7_tell_66 : decode cX7_tell 66 = .ok (.getfield 75, 3) := by decide +kernel
theorem dX7_tell_69 : decode cX7_tell 69 = .ok (.iconst 2, 1) := by decide +kernel
theorem dX7_tell_70 : decode cX7_tell 70 = .ok (.iload_n 2, 1) := by decide +kernel
theorem dX7_tell_71 : decode cX7_tell 71 = .ok (.invokevirtual 174, 3) := by decide +kernel
theorem dX7_tell_74 : decode cX7_tell 74 = .ok (.ireturn, 1) := by decide +kernel
theorem dX7_tell_75 : decode cX7_tell 75 = .ok (.aload_n 0, 1) := by decide +kernel
theorem dX7_tell_76 : decode cX7_tell 76 = .ok (.getfield 12, 3) := by decide +kernel
theorem dX7_tell_79 : decode cX7_tell 79 = .ok (.getfield 75, 3) := by decide +kernel
theorem dX7_tell_82 : decode cX7_tell 82 = .ok (.iconst 0, 1) := by decide +kernel
theorem dX7_tell_83 : decode cX7_tell 83 = .ok (.iload_n 2, 1) := by decide +kernel
theorem dX7_tell_84 : decode cX7_tell 84 = .ok (.invokevirtual 174, 3) := by decide +kernel
theorem dX7_tell_87 : decode cX7_tell 87 = .ok (.ireturn, 1) := by decide +kernel
theorem dX7_tell_88 : decode cX7_tell 88 = .ok (.aload_n 0, 1) := by decide +kernel
theorem dX7_tell_89 : decode cX7_tell 89 = .ok (.getfield 12, 3) := by decide +kernel
theorem dX7_tell_92 : decode cX7_tell 92 = .ok (.getfield 75, 3) := by decide +kernel
theorem dX7_tell_95 : decode cX7_tell 95 = .ok (.iconst 4, 1) := by decide +kernel
theorem dX7_tell_96 : decode cX7_tell 96 = .ok (.iload_n 2, 1) := by decide +kernel
theorem dX7_tell_97 : decode cX7_tell 97 = .ok (.invokevirtual 174, 3) := by decide +kernel
theorem dX7_tell_100 : decode cX7_tell 100 = .ok (.ireturn, 1) := by decide +kernel
theorem dX7_tell_101 : decode cX7_tell 101 = .ok (.aload_n 0, 1) := by decide +kernel
theorem dX7_tell_102 : decode cX7_tell 102 = .ok (.getfield 12, 3) := by decide +kernel
theorem dX7_tell_105 : decode cX7_tell 105 = .ok (.getfield 90, 3) := by decide +kernel
theorem dX7_tell_108 : decode cX7_tell 108 = .ok (.iconst 2, 1) := by decide +kernel
theorem dX7_tell_109 : decode cX7_tell 109 = .ok (.iload_n 2, 1) := by decide +kernel
theorem dX7_tell_110 : decode cX7_tell 110 = .ok (.invokevirtual 174, 3) := by decide +kernel
theorem dX7_tell_113 : decode cX7_tell 113 = .ok (.ireturn, 1) := by decide +kernel
theorem dX7_tell_114 : decode cX7_tell 114 = .ok (.aload_n 0, 1) := by decide +kernel
theorem dX7_tell_115 : decode cX7_tell 115 = .ok (.getfield 12, 3) := by decide +kernel
theorem dX7_tell_118 : decode cX7_tell 118 = .ok (.getfield 90, 3) := by decide +kernel
theorem dX7_tell_121 : decode cX7_tell 121 = .ok (.iconst 0, 1) := by decide +kernel
theorem dX7_tell_122 : decode cX7_tell 122 = .ok (.iload_n 2, 1) := by decide +kernel
theorem dX7_tell_123 : decode cX7_tell 123 = .ok (.invokevirtual 174, 3) := by decide +kernel
theorem dX7_tell_126 : decode cX7_tell 126 = .ok (.ireturn, 1) := by decide +kernel
theorem dX7_tell_127 : decode cX7_tell 127 = .ok (.bipush (-2), 2) := by decide +kernel
theorem dX7_tell_129 : decode cX7_tell 129 = .ok (.ireturn, 1) := by decide +kernel
theorem dX7_tellWhole_0 : decode cX7_tellWhole 0 = .ok (.iload_n 1, 1) := by decide +kernel
theorem dX7_tellWhole_1 : decode cX7_tellWhole 1 = .ok (.tableswitch 51 0 3 #[31, 36, 41, 46], 31) := by decide +kernel
theorem dX7_tellWhole_32 : decode cX7_tellWhole 32 = .ok (.aload_n 0, 1) := by decide +kernel
theorem dX7_tellWhole_33 : decode cX7_tellWhole 33 = .ok (.getfield 18, 3) := by decide +kernel
theorem dX7_tellWhole_36 : decode cX7_tellWhole 36 = .ok (.ireturn, 1) := by decide +kernel
theorem dX7_tellWhole_37 : decode cX7_tellWhole 37 = .ok (.aload_n 0, 1) := by decide +kernel
theorem dX7_tellWhole_38 : decode cX7_tellWhole 38 = .ok (.getfield 22, 3) := by decide +kernel
theorem dX7_tellWhole_41 : decode cX7_tellWhole 41 = .ok (.ireturn, 1) := by decide +kernel
theorem dX7_tellWhole_42 : decode cX7_tellWhole 42 = .ok (.aload_n 0, 1) := by decide +kernel
theorem dX7_tellWhole_43 : decode cX7_tellWhole 43 = .ok (.getfield 25, 3) := by decide +kernel
theorem dX7_tellWhole_46 : decode cX7_tellWhole 46 = .ok (.ireturn, 1) := by decide +kernel
theorem dX7_tellWhole_47 : decode cX7_tellWhole 47 = .ok (.aload_n 0, 1) := by decide +kernel
theorem dX7_tellWhole_48 : decode cX7_tellWhole 48 = .ok (.getfield 28, 3) := by decide +kernel
theorem dX7_tellWhole_51 : decode cX7_tellWhole 51 = .ok (.ireturn, 1) := by decide +kernel
theorem dX7_tellWhole_52 : decode cX7_tellWhole 52 = .ok (.iload_n 1, 1) := by decide +kernel
theorem dX7_tellWhole_53 : decode cX7_tellWhole 53 = .ok (.iconst 4, 1) := by decide +kernel
theorem dX7_tellWhole_54 : decode cX7_tellWhole 54 = .ok (.if_icmp .ne 10, 3) := by decide +kernel
theorem dX7_tellWhole_57 : decode cX7_tellWhole 57 = .ok (.aload_n 0, 1) := by decide +kernel
theorem dX7_tellWhole_58 : decode cX7_tellWhole 58 = .ok (.getfield 31, 3) := by decide +kernel
theorem dX7_tellWhole_61 : decode cX7_tellWhole 61 = .ok (.goto 5, 3) := by decide +kernel
theorem dX7_tellWhole_64 : decode cX7_tellWhole 64 = .ok (.bipush (-2), 2) := by decide +kernel
theorem dX7_tellWhole_66 : decode cX7_tellWhole 66 = .ok (.ireturn, 1) := by decide +kernel
theorem tf_7_56 : tFld TB0 7 56 = some (10, 3) := rfl
theorem tf_7_61 : tFld TB0 7 61 = some (10, 0) := rfl
theorem tf_7_65 : tFld TB0 7 65 = some (10, 1) := rfl
theorem tf_7_68 : tFld TB0 7 68 = some (10, 2) := rfl
set_option maxRecDepth 20000 in
theorem tm_7_53 : tMet TB0 7 53 = some (0, M_X7_begin) := rfl
set_option maxRecDepth 20000 in
theorem tm_7_71 : tMet TB0 7 71 = some (0, M_X7_perform) := rfl
set_option maxRecDepth 20000 in
theorem tm_7_171 : tMet TB0 7 171 = some (0, M_X7_tellWhole) := rfl
set_option maxRecDepth 20000 in
theorem tm_7_174 : tMet TB0 7 174 = some (0, M_X0_tell) := rfl
def stN (y g : Int → Int) : Nat → (Int → Int) × (Int → Int)
  | 0 => (g, fun _ => 0)
  | k + 1 => (nG (stN y g k).1 (stN y g k).2 (ysr y k) (yfi y k) (yse y k), nQ (stN y g k).1 (stN y g k).2 (ysr y k) (yfi y k) (yse y k))
def stG (y g : Int → Int) (k : Int) : Int → Int := (stN y g k.toNat).1
def stQ (y g : Int → Int) (k : Int) : Int → Int := (stN y g k.toNat).2
abbrev okK (y g : Int → Int) (k : Int) : Prop := okZ (stG y g k) (stQ y g k) (ysr y k) (yfi y k) (yse y k)
theorem stG_s {y g : Int → Int} {k : Int} (h : 0 ≤ k) : stG y g (k + 1) = nG (stG y g k) (stQ y g k) (ysr y k) (yfi y k) (yse y k) := by
  unfold stG stQ
  rw [show (k + 1).toNat = k.toNat + 1 by omega]
  show nG _ _ (ysr y (k.toNat : Int)) (yfi y (k.toNat : Int)) (yse y (k.toNat : Int)) = _
  rw [Int.toNat_of_nonneg h]
theorem stQ_s {y g : Int → Int} {k : Int} (h : 0 ≤ k) : stQ y g (k + 1) = nQ (stG y g k) (stQ y g k) (ysr y k) (yfi y k) (yse y k) := by
  unfold stG stQ
  rw [show (k + 1).toNat = k.toNat + 1 by omega]
  show nQ _ _ (ysr y (k.toNat : Int)) (yfi y (k.toNat : Int)) (yse y (k.toNat : Int)) = _
  rw [Int.toNat_of_nonneg h]
theorem n_no {g q : Int → Int} {s a b : Int} (h0 : 0 ≤ s) (h1 : s ≤ 6) (h : ¬ okZ g q s a b) : nG g q s a b = g ∧ nQ g q s a b = q := by
  rcases (show s = 0 ∨ s = 1 ∨ s = 2 ∨ s = 3 ∨ s = 4 ∨ s = 5 ∨ s = 6 by omega) with e | e | e | e | e | e | e <;> subst e
  · rw [nG0, nQ0]; unfold rvG; rw [if_neg (fun z => h (ok0.mp z))]; exact ⟨rfl, rfl⟩
  · rw [nG1, nQ1]; unfold heQ; rw [if_neg (fun z => h (ok1.mp z))]; exact ⟨rfl, rfl⟩
  · rw [nG2, nQ2]; unfold paG; rw [if_neg (fun z => h (ok2.mp z))]; exact ⟨rfl, rfl⟩
  · rw [nG3, nQ3]; unfold cuG cuQ; rw [if_neg (fun z => h (ok3.mp z)), if_neg (fun z => h (ok3.mp z))]; exact ⟨rfl, rfl⟩
  · rw [nG4, nQ4]; unfold gkG; rw [if_neg (fun z => h (ok4.mp z))]; exact ⟨rfl, rfl⟩
  · rw [nG5, nQ5]; unfold oiQ; rw [if_neg (fun z => h (ok5.mp z))]; exact ⟨rfl, rfl⟩
  · rw [nG6, nQ6]; unfold dyG dyQ; rw [if_neg (fun z => h (ok6.mp z)), if_neg (fun z => h (ok6.mp z))]; exact ⟨rfl, rfl⟩
/-- how far a year goes, most deeds at most -/
def lvR (y g : Int → Int) (most v : Int) : Prop := (0 ≤ v ∧ v ≤ most ∧ v ≤ y 0) ∧ (∀ j, 0 ≤ j → j < v → okK y g j) ∧ (v = most ∨ v = y 0 ∨ ¬ okK y g v)
theorem lvR_u {y g : Int → Int} {most v v' : Int} (a : lvR y g most v) (b : lvR y g most v') : v = v' := by
  obtain ⟨a1, a2, a3⟩ := a
  obtain ⟨b1, b2, b3⟩ := b
  rcases Int.lt_trichotomy v v' with q | q | q
  · have := b2 v a1.1 q
    rcases a3 with z | z | z
    · omega
    · omega
    · exact absurd this z
  · exact q
  · have := a2 v' b1.1 q
    rcases b3 with z | z | z
    · omega
    · omega
    · exact absurd this z
theorem okAll {y g : Int → Int} {k : Int} (h : ∀ j, 0 ≤ j → j < k → okK y g j) (q : okK y g k) : ∀ j, 0 ≤ j → j < k + 1 → okK y g j := fun j a c => by
  by_cases z : j < k
  · exact h j a z
  · rw [show j = k by omega]; exact q
theorem wY_k {y : Int → Int} (w : wfY y) {k : Int} (h0 : 0 ≤ k) (h1 : k < y 0) : (0 ≤ ysr y k ∧ ysr y k ≤ 6) ∧ (-1 ≤ yfi y k ∧ yfi y k ≤ 5) ∧ (-1 ≤ yse y k ∧ yse y k ≤ 5) ∧ (ysr y k = 0 ∨ ysr y k = 3 → 0 ≤ yfi y k ∧ 0 ≤ yse y k) ∧ (ysr y k = 1 ∨ ysr y k = 2 ∨ ysr y k = 5 → 0 ≤ yfi y k) ∧ (ysr y k = 4 → 0 ≤ yfi y k ∧ yfi y k ≤ 1 ∧ 0 ≤ yse y k) := w.2 k h0 h1
theorem wY_r {y : Int → Int} (w : wfY y) {k : Int} (h0 : 0 ≤ k) (h1 : k < y 0) : (0 ≤ ysr y k ∧ ysr y k ≤ 6) ∧ (-1 ≤ yfi y k ∧ yfi y k ≤ 5) ∧ (-1 ≤ yse y k ∧ yse y k ≤ 5) := ⟨(w.2 k h0 h1).1, (w.2 k h0 h1).2.1, (w.2 k h0 h1).2.2.1⟩
theorem wY_4 {y : Int → Int} (w : wfY y) {k : Int} (h0 : 0 ≤ k) (h1 : k < y 0) (e : ysr y k = 4) : yfi y k = 0 ∨ yfi y k = 1 := by
  have := (w.2 k h0 h1).2.2.2.2.2 e
  omega
/-- what tell() of a season answers -/
def tlS (g q : Int → Int) (w : Int) : Int := if 0 ≤ w ∧ w < 10 then (if w = 0 then q 0 else if w = 1 then q 1 else if w = 2 then q 2 else if w = 3 then q 3 else if w = 4 then q 4 else -2) else if w / 10 = 1 then (if w % 10 < nd g then de g (w % 10) else -2) else if w / 10 = 2 then (if w % 10 < nd g then dl g (w % 10) else -2) else if w / 10 = 3 then (if w % 10 < nd g then dm g (w % 10) else -2) else if w / 10 = 4 then (if w % 10 < nu g then ue g (w % 10) else -2) else if w / 10 = 5 then (if w % 10 < nu g then ul g (w % 10) else -2) else -2
theorem isS_n {h : mH} {s : Nat} {q : Int → Int} {k : Int} (H : isS h s q (k + 1)) (hk : wfQ q k) : isS h s q k := ⟨hk, H.2⟩
set_option maxHeartbeats 2000000 in
theorem zp_X7_live {ad : mA} {dd : Nat} {h : mH} {Q : mQ} {s f y : Nat} {g y' : Int → Int} (hk : sek h s) (hk1 : fgk h f) (hk2 : yrk h y) (HF : isF h f g) (HY : isY h y y')  (t : Int) (t_r : -2147483648 ≤ t ∧ t < 2147483648) (pm : 0 ≤ t) (pd : s + 17 ≤ f ∨ f + 16 ≤ s) (pe : s + 17 ≤ y ∨ y + 4 ≤ s) (kq : ∀ v : Int, (lvR y' g t v) → ∀ h1, frm (fun a k => (a = s ∧ 1 ≤ k ∧ k ≤ 8) ∨ (s + 1 ≤ a ∧ a < s + 17)) h h1 → (isF h1 (s + 1) (stG y' g v)) → (isS h1 s (stQ y' g v) v) → Q (some (.int (zI v))) h1) : mCal TB0 ad (dd + 6) M_X7_live [.ref s, .ref f, .ref y, .int (zI t)] h 0 0 Q := by
  refine ⟨Nat.le_of_ble_eq_true rfl, ?_⟩
  show mEv TB0 ad M_X7_live (dd + 6) (0, 0) (mCal TB0 ad (dd + 5)) (fun v h' z => z.1 = 0 ∧ Q v h') 0 [some (.ref s), some (.ref f), some (.ref y), some (.int (zI t)), none] [] h (0, 0)
  have FR0 : frm (fun a k => (a = s ∧ 1 ≤ k ∧ k ≤ 8) ∨ (s + 1 ≤ a ∧ a < s + 17)) h h := frm_0 h
  have wy := (isY_w HY).1
  refine e_aload_n dX7_live_0 rfl ?_
  refine e_aload_n dX7_live_1 rfl ?_
  refine e_callV [.ref _] dX7_live_2 tm_7_53 rfl (Nat.le_of_ble_eq_true rfl) (congrArg Prod.fst (se_s0 hk)) (Nat.le_of_ble_eq_true rfl) (Nat.le_refl _) (Nat.le_refl _) rfl (zp_X7_begin hk hk1 HF (by omega) (fun  h1 f2 p3 p4 => ?_))
  have k5 := lk_q (frm_s f2) hk
  have k6 := lk_q (frm_s f2) hk1
  have k7 := lk_q (frm_s f2) hk2
  have H8 := isF_c f2 (fun a k q1 q2 => by omega) HF
  have H9 := isY_c f2 (fun a k q1 q2 => by omega) HY
  have FR10 := frm_t FR0 (frm_m (S' := (fun a k => (a = s ∧ 1 ≤ k ∧ k ≤ 8) ∨ (s + 1 ≤ a ∧ a < s + 17))) f2 (fun a k q => by omega))
  refine z_iconst (0) dX7_live_5 rfl ?_
  refine e_istore (L' := [_, _, _, _, _]) dX7_live_6 (Nat.le_of_ble_eq_true rfl) rfl ?_
  have lp11 : ∀ (n11 : Nat) (k : Int) (h11 : mH), (40 - k).toNat = n11 → (sek h11 s) → (fgk h11 f) → (yrk h11 y) → (isF h11 f g) → (isY h11 y y') → (frm (fun a k => (a = s ∧ 1 ≤ k ∧ k ≤ 8) ∨ (s + 1 ≤ a ∧ a < s + 17)) h h11) → (0 ≤ k) → (k ≤ t ∧ k ≤ y' 0) → (isF h11 (s + 1) (stG y' g k)) → (isS h11 s (stQ y' g k) k) → (∀ j, 0 ≤ j → j < k → okK y' g j) → mEv TB0 ad M_X7_live (dd + 6) (0, 0) (mCal TB0 ad (dd + 5)) (fun v h' z => z.1 = 0 ∧ Q v h') 8 [some (.ref s), some (.ref f), some (.ref y), some (.int (zI t)), some (.int (zI k))] [] h11 (0, 0) := by
    intro n11
    induction n11 using Nat.strongRecOn with
    | ind n11 ih11 =>
    intro k h11 hn11 k12 k13 k14 H15 H16 FR17 I1 I2 I3 I4 I5
    refine e_iload dX7_live_8 rfl ?_
    refine e_iload_n dX7_live_10 rfl ?_
    refine z_icmp_ge 64 dX7_live_11 rfl ⟨by omega, by omega⟩ ⟨by omega, by omega⟩ (fun c18 => ?_) (fun c18 => ?_)
    · skip
      refine e_iload dX7_live_64 rfl ?_
      refine z_iret dX7_live_66 rfl ⟨rfl, ?_⟩
      exact kq _ ⟨by omega, I5, by omega⟩ _ FR17 I3 I4
    · skip
      refine e_iload dX7_live_14 rfl ?_
      refine e_aload_n dX7_live_16 rfl ?_
      refine z_get (y' 0) dX7_live_17 tf_7_56 (congrArg Prod.fst (yr_s0 k14)) (Or.inl rfl) (isY_n H16) ?_
      have y19 := (isY_w H16).1
      refine z_icmp_ge 64 dX7_live_20 rfl ⟨by omega, by omega⟩ ⟨by omega, by omega⟩ (fun c20 => ?_) (fun c20 => ?_)
      · skip
        refine e_iload dX7_live_64 rfl ?_
        refine z_iret dX7_live_66 rfl ⟨rfl, ?_⟩
        exact kq _ ⟨by omega, I5, by omega⟩ _ FR17 I3 I4
      · skip
        refine e_iload dX7_live_23 rfl ?_
        refine z_bipush (40) dX7_live_25 rfl ?_
        refine z_icmp_ge 64 dX7_live_27 rfl ⟨by omega, by omega⟩ ⟨by omega, by omega⟩ (fun c21 => ?_) (fun c21 => ?_)
        · skip
          refine e_iload dX7_live_64 rfl ?_
          refine z_iret dX7_live_66 rfl ⟨rfl, ?_⟩
          exact kq _ ⟨by omega, I5, by omega⟩ _ FR17 I3 I4
        · skip
          skip
          skip
          have wk := wY_r (isY_w HY) (k := k) (by omega) (by omega)
          refine e_aload_n dX7_live_30 rfl ?_
          refine e_aload_n dX7_live_31 rfl ?_
          refine e_get (.ref (y + 1)) dX7_live_32 tf_7_61 (congrArg Prod.fst (yr_s0 k14)) (congrArg va_rf (yr_r0_0 k14)) ?_
          refine e_iload dX7_live_35 rfl ?_
          refine z_ild (ysr y' k) dX7_live_37 (yr_s1 k14) (by decide) (by omega) (by omega) (isY_ysr H16 (by omega) (by omega)) ?_
          refine e_aload_n dX7_live_38 rfl ?_
          refine e_get (.ref (y + 2)) dX7_live_39 tf_7_65 (congrArg Prod.fst (yr_s0 k14)) (congrArg va_rf (yr_r0_1 k14)) ?_
          refine e_iload dX7_live_42 rfl ?_
          refine z_ild (yfi y' k) dX7_live_44 (yr_s2 k14) (by decide) (by omega) (by omega) (isY_yfi H16 (by omega) (by omega)) ?_
          refine e_aload_n dX7_live_45 rfl ?_
          refine e_get (.ref (y + 3)) dX7_live_46 tf_7_68 (congrArg Prod.fst (yr_s0 k14)) (congrArg va_rf (yr_r0_2 k14)) ?_
          refine e_iload dX7_live_49 rfl ?_
          refine z_ild (yse y' k) dX7_live_51 (yr_s3 k14) (by decide) (by omega) (by omega) (isY_yse H16 (by omega) (by omega)) ?_
          refine e_callV [.int _, .int _, .int _] dX7_live_52 tm_7_71 rfl (Nat.le_of_ble_eq_true rfl) (congrArg Prod.fst (se_s0 k12)) (Nat.le_of_ble_eq_true rfl) (Nat.le_refl _) (Nat.le_refl _) rfl (zp_X7_perform k12 I3 I4 (ysr y' k) ⟨by omega, by omega⟩ (yfi y' k) ⟨by omega, by omega⟩ (yse y' k) ⟨by omega, by omega⟩ (by omega) (by omega) (wY_4 (isY_w HY) (by omega) (by omega)) (fun  h22 f23 p24 p25 => ?_))
          have k26 := lk_q (frm_s f23) k12
          have k27 := lk_q (frm_s f23) k13
          have k28 := lk_q (frm_s f23) k14
          have H29 := isF_c f23 (fun a k q1 q2 => by omega) H15
          have H30 := isY_c f23 (fun a k q1 q2 => by omega) H16
          have FR31 := frm_t FR17 (frm_m (S' := (fun a k => (a = s ∧ 1 ≤ k ∧ k ≤ 8) ∨ (s + 1 ≤ a ∧ a < s + 17))) f23 (fun a k q => by omega))
          refine z_ifb_eq 64 dX7_live_55 rfl (fun c32 => ?_) (fun c32 => ?_)
          · skip
            refine e_iload dX7_live_64 rfl ?_
            refine z_iret dX7_live_66 rfl ⟨rfl, ?_⟩
            have CX : ¬ okK y' g k := by assumption
            have N := n_no (by omega) (by omega) CX
            exact kq _ ⟨by omega, I5, Or.inr (Or.inr CX)⟩ _ FR31 (by rw [← N.1]; exact p24) (by have z := p25; rw [N.2] at z; exact isS_n z I4.1)
          · skip
            refine z_iinc (L' := [_, _, _, _, _]) dX7_live_58 rfl rfl ?_
            refine e_goto 8 dX7_live_61 rfl ?_
            exact ih11 _ (by omega) (k + 1) h22 rfl k26 k27 k28 H29 H30 FR31 (by omega) (by omega) (by rw [stG_s I1]; exact p24) (by rw [stQ_s I1]; exact p25) (okAll I5 (by assumption))
  exact lp11 _ 0 h1 rfl k5 k6 k7 H8 H9 FR10 (by omega) (by omega) p3 p4 (fun j a c => by omega)
set_option maxHeartbeats 400000 in
theorem zp_X7_tellWhole {ad : mA} {dd : Nat} {h : mH} {Q : mQ} {s : Nat} {q : Int → Int} {n : Int} (hk : sek h s) (HQ : isS h s q n)  (w : Int) (w_r : -2147483648 ≤ w ∧ w < 2147483648) (p1 : 0 ≤ w ∧ w < 10) (kq : Q (some (.int (zI (if w = 0 then q 0 else if w = 1 then q 1 else if w = 2 then q 2 else if w = 3 then q 3 else if w = 4 then q 4 else -2)))) h) : mCal TB0 ad (dd + 1) M_X7_tellWhole [.ref s, .int (zI w)] h 0 0 Q := by
  refine ⟨Nat.le_of_ble_eq_true rfl, ?_⟩
  show mEv TB0 ad M_X7_tellWhole (dd + 1) (0, 0) (mCal TB0 ad (dd + 0)) (fun v h' z => z.1 = 0 ∧ Q v h') 0 [some (.ref s), some (.int (zI w))] [] h (0, 0)
  refine e_iload_n dX7_tellWhole_0 rfl ?_
  by_cases c1 : w = 0
  · skip
    refine z_tableV (0) 32 dX7_tellWhole_1 c1 (by decide) (by decide +kernel) ?_
    refine e_aload_n dX7_tellWhole_32 rfl ?_
    refine z_get (q 0) dX7_tellWhole_33 tf_7_18 (congrArg Prod.fst (se_s0 hk)) (Or.inl rfl) HQ.2.1 ?_
    have y2 := wfQ_e HQ.1
    refine z_iret dX7_tellWhole_36 rfl ⟨rfl, ?_⟩
    refine z_q kq ?_
    repeat' split
    all_goals first | rfl | omega
  by_cases c3 : w = 1
  · skip
    refine z_tableV (1) 37 dX7_tellWhole_1 c3 (by decide) (by decide +kernel) ?_
    refine e_aload_n dX7_tellWhole_37 rfl ?_
    refine z_get (q 1) dX7_tellWhole_38 tf_7_22 (congrArg Prod.fst (se_s0 hk)) (Or.inl rfl) HQ.2.2.1 ?_
    have y4 := wfQ_e HQ.1
    refine z_iret dX7_tellWhole_41 rfl ⟨rfl, ?_⟩
    refine z_q kq ?_
    repeat' split
    all_goals first | rfl | omega
  by_cases c5 : w = 2
  · skip
    refine z_tableV (2) 42 dX7_tellWhole_1 c5 (by decide) (by decide +kernel) ?_
    refine e_aload_n dX7_tellWhole_42 rfl ?_
    refine z_get (q 2) dX7_tellWhole_43 tf_7_25 (congrArg Prod.fst (se_s0 hk)) (Or.inl rfl) HQ.2.2.2.1 ?_
    have y6 := wfQ_e HQ.1
    refine z_iret dX7_tellWhole_46 rfl ⟨rfl, ?_⟩
    refine z_q kq ?_
    repeat' split
    all_goals first | rfl | omega
  by_cases c7 : w = 3
  · skip
    refine z_tableV (3) 47 dX7_tellWhole_1 c7 (by decide) (by decide +kernel) ?_
    refine e_aload_n dX7_tellWhole_47 rfl ?_
    refine z_get (q 3) dX7_tellWhole_48 tf_7_28 (congrArg Prod.fst (se_s0 hk)) (Or.inl rfl) HQ.2.2.2.2.1 ?_
    have y8 := wfQ_e HQ.1
    refine z_iret dX7_tellWhole_51 rfl ⟨rfl, ?_⟩
    refine z_q kq ?_
    repeat' split
    all_goals first | rfl | omega
  refine z_tableD 52 dX7_tellWhole_1 ⟨by omega, by omega⟩ (by omega) rfl ?_
  refine e_iload_n dX7_tellWhole_52 rfl ?_
  refine z_iconst (4) dX7_tellWhole_53 rfl ?_
  refine z_icmp_ne 64 dX7_tellWhole_54 rfl ⟨by omega, by omega⟩ ⟨by omega, by omega⟩ (fun c9 => ?_) (fun c9 => ?_)
  · skip
    refine z_bipush (-2) dX7_tellWhole_64 rfl ?_
    refine z_iret dX7_tellWhole_66 rfl ⟨rfl, ?_⟩
    refine z_q kq ?_
    repeat' split
    all_goals first | rfl | omega
  · skip
    refine e_aload_n dX7_tellWhole_57 rfl ?_
    refine z_get (q 4) dX7_tellWhole_58 tf_7_31 (congrArg Prod.fst (se_s0 hk)) (Or.inl rfl) HQ.2.2.2.2.2.1 ?_
    have y10 := wfQ_e HQ.1
    refine e_goto 66 dX7_tellWhole_61 rfl ?_
    refine z_iret dX7_tellWhole_66 rfl ⟨rfl, ?_⟩
    refine z_q kq ?_
    repeat' split
    all_goals first | rfl | omega
set_option maxHeartbeats 400000 in
theorem zp_X7_tell {ad : mA} {dd : Nat} {h : mH} {Q : mQ} {s : Nat} {g q : Int → Int} {n : Int} (hk : sek h s) (HF : isF h (s + 1) g) (HQ : isS h s q n)  (w : Int) (w_r : -2147483648 ≤ w ∧ w < 2147483648)  (kq : Q (some (.int (zI (tlS g q w)))) h) : mCal TB0 ad (dd + 3) M_X7_tell [.ref s, .int (zI w)] h 0 0 Q := by
  refine ⟨Nat.le_of_ble_eq_true rfl, ?_⟩
  show mEv TB0 ad M_X7_tell (dd + 3) (0, 0) (mCal TB0 ad (dd + 2)) (fun v h' z => z.1 = 0 ∧ Q v h') 0 [some (.ref s), some (.int (zI w)), none] [] h (0, 0)
  have w1 := isF_n HF
  have w2 : rI h (s + 2) 5 = nd g := isF_nd HF
  have w3 : rI h (s + 8) 5 = nu g := isF_nu HF
  have W := isF_w HF
  have wq := wfQ_e HQ.1
  refine e_iload_n dX7_tell_0 rfl ?_
  refine z_if_ge 7 dX7_tell_1 rfl ⟨by omega, by omega⟩ (fun c1 => ?_) (fun c1 => ?_)
  · skip
    refine e_iload_n dX7_tell_7 rfl ?_
    refine z_bipush (10) dX7_tell_8 rfl ?_
    refine z_irem dX7_tell_10 (by omega) (by omega) (by omega) (by omega) ?_
    refine e_istore_n (L' := [_, _, _]) dX7_tell_11 (Nat.le_of_ble_eq_true rfl) rfl ?_
    refine e_iload_n dX7_tell_12 rfl ?_
    refine z_bipush (10) dX7_tell_13 rfl ?_
    refine z_idiv dX7_tell_15 (by omega) (by omega) (by omega) (by omega) ?_
    by_cases c2 : (w / 10) = 0
    · skip
      refine z_tableV (0) 56 dX7_tell_16 c2 (by decide) (by decide +kernel) ?_
      refine e_aload_n dX7_tell_56 rfl ?_
      refine e_iload_n dX7_tell_57 rfl ?_
      refine e_callV [.int _] dX7_tell_58 tm_7_171 rfl (Nat.le_of_ble_eq_true rfl) (congrArg Prod.fst (se_s0 hk)) (Nat.le_of_ble_eq_true rfl) (Nat.le_refl _) (Nat.le_refl _) rfl (zp_X7_tellWhole hk HQ (w % 10) ⟨by omega, by omega⟩ (by omega) ?_)
      refine z_iret dX7_tell_61 rfl ⟨rfl, ?_⟩
      refine z_q kq ?_
      unfold tlS; rw [if_pos (show 0 ≤ w ∧ w < 10 by omega), show w % 10 = w by omega]
    by_cases c3 : (w / 10) = 1
    · skip
      refine z_tableV (1) 62 dX7_tell_16 c3 (by decide) (by decide +kernel) ?_
      refine e_aload_n dX7_tell_62 rfl ?_
      refine e_get (.ref (s + 1)) dX7_tell_63 tf_7_12 (congrArg Prod.fst (se_s0 hk)) (congrArg va_rf (se_r0_0 hk)) ?_
      refine e_get (.ref (s + 2)) dX7_tell_66 tf_7_75 (congrArg Prod.fst (se_s1 hk)) (congrArg va_rf (se_r1_0 hk)) ?_
      refine z_iconst (2) dX7_tell_69 rfl ?_
      refine e_iload_n dX7_tell_70 rfl ?_
      refine e_callV [.int _, .int _] dX7_tell_71 tm_7_174 rfl (Nat.le_of_ble_eq_true rfl) (congrArg Prod.fst (se_s2 hk)) (Nat.le_of_ble_eq_true rfl) (Nat.le_refl _) (Nat.le_refl _) rfl (zp_X0_tell (se_bl2 hk) 2 ⟨by omega, by omega⟩ (w % 10) ⟨by omega, by omega⟩ ?_)
      have y4 := tellB_b h (s + 2) 2 (w % 10)
      refine z_iret dX7_tell_74 rfl ⟨rfl, ?_⟩
      refine z_q kq ?_
      rw [tellB_d HF (by omega) (by omega) (by omega)]; unfold tlS; rw [if_neg (show ¬ (0 ≤ w ∧ w < 10) by omega)]; rw [if_pos (show w / 10 = 1 by omega)]; rfl
    by_cases c5 : (w / 10) = 2
    · skip
      refine z_tableV (2) 75 dX7_tell_16 c5 (by decide) (by decide +kernel) ?_
      refine e_aload_n dX7_tell_75 rfl ?_
      refine e_get (.ref (s + 1)) dX7_tell_76 tf_7_12 (congrArg Prod.fst (se_s0 hk)) (congrArg va_rf (se_r0_0 hk)) ?_
      refine e_get (.ref (s + 2)) dX7_tell_79 tf_7_75 (congrArg Prod.fst (se_s1 hk)) (congrArg va_rf (se_r1_0 hk)) ?_
      refine z_iconst (0) dX7_tell_82 rfl ?_
      refine e_iload_n dX7_tell_83 rfl ?_
      refine e_callV [.int _, .int _] dX7_tell_84 tm_7_174 rfl (Nat.le_of_ble_eq_true rfl) (congrArg Prod.fst (se_s2 hk)) (Nat.le_of_ble_eq_true rfl) (Nat.le_refl _) (Nat.le_refl _) rfl (zp_X0_tell (se_bl2 hk) 0 ⟨by omega, by omega⟩ (w % 10) ⟨by omega, by omega⟩ ?_)
      have y6 := tellB_b h (s + 2) 0 (w % 10)
      refine z_iret dX7_tell_87 rfl ⟨rfl, ?_⟩
      refine z_q kq ?_
      rw [tellB_d HF (by omega) (by omega) (by omega)]; unfold tlS; rw [if_neg (show ¬ (0 ≤ w ∧ w < 10) by omega), if_neg (show ¬ w / 10 = 1 by omega)]; rw [if_pos (show w / 10 = 2 by omega)]; rfl
    by_cases c7 : (w / 10) = 3
    · skip
      refine z_tableV (3) 88 dX7_tell_16 c7 (by decide) (by decide +kernel) ?_
      refine e_aload_n dX7_tell_88 rfl ?_
      refine e_get (.ref (s + 1)) dX7_tell_89 tf_7_12 (congrArg Prod.fst (se_s0 hk)) (congrArg va_rf (se_r0_0 hk)) ?_
      refine e_get (.ref (s + 2)) dX7_tell_92 tf_7_75 (congrArg Prod.fst (se_s1 hk)) (congrArg va_rf (se_r1_0 hk)) ?_
      refine z_iconst (4) dX7_tell_95 rfl ?_
      refine e_iload_n dX7_tell_96 rfl ?_
      refine e_callV [.int _, .int _] dX7_tell_97 tm_7_174 rfl (Nat.le_of_ble_eq_true rfl) (congrArg Prod.fst (se_s2 hk)) (Nat.le_of_ble_eq_true rfl) (Nat.le_refl _) (Nat.le_refl _) rfl (zp_X0_tell (se_bl2 hk) 4 ⟨by omega, by omega⟩ (w % 10) ⟨by omega, by omega⟩ ?_)
      have y8 := tellB_b h (s + 2) 4 (w % 10)
      refine z_iret dX7_tell_100 rfl ⟨rfl, ?_⟩
      refine z_q kq ?_
      rw [tellB_d HF (by omega) (by omega) (by omega)]; unfold tlS; rw [if_neg (show ¬ (0 ≤ w ∧ w < 10) by omega), if_neg (show ¬ w / 10 = 1 by omega), if_neg (show ¬ w / 10 = 2 by omega), if_pos (show w / 10 = 3 by omega)]; rfl
    by_cases c9 : (w / 10) = 4
    · skip
      refine z_tableV (4) 101 dX7_tell_16 c9 (by decide) (by decide +kernel) ?_
      refine e_aload_n dX7_tell_101 rfl ?_
      refine e_get (.ref (s + 1)) dX7_tell_102 tf_7_12 (congrArg Prod.fst (se_s0 hk)) (congrArg va_rf (se_r0_0 hk)) ?_
      refine e_get (.ref (s + 8)) dX7_tell_105 tf_7_90 (congrArg Prod.fst (se_s1 hk)) (congrArg va_rf (se_r1_1 hk)) ?_
      refine z_iconst (2) dX7_tell_108 rfl ?_
      refine e_iload_n dX7_tell_109 rfl ?_
      refine e_callV [.int _, .int _] dX7_tell_110 tm_7_174 rfl (Nat.le_of_ble_eq_true rfl) (congrArg Prod.fst (se_s8 hk)) (Nat.le_of_ble_eq_true rfl) (Nat.le_refl _) (Nat.le_refl _) rfl (zp_X0_tell (se_bl8 hk) 2 ⟨by omega, by omega⟩ (w % 10) ⟨by omega, by omega⟩ ?_)
      have y10 := tellB_b h (s + 8) 2 (w % 10)
      refine z_iret dX7_tell_113 rfl ⟨rfl, ?_⟩
      refine z_q kq ?_
      rw [tellB_u HF (by omega) (by omega) (by omega)]; unfold tlS; rw [if_neg (show ¬ (0 ≤ w ∧ w < 10) by omega)]; rw [if_neg (show ¬ w / 10 = 1 by omega), if_neg (show ¬ w / 10 = 2 by omega), if_neg (show ¬ w / 10 = 3 by omega), if_pos (show w / 10 = 4 by omega)]; rfl
    by_cases c11 : (w / 10) = 5
    · skip
      refine z_tableV (5) 114 dX7_tell_16 c11 (by decide) (by decide +kernel) ?_
      refine e_aload_n dX7_tell_114 rfl ?_
      refine e_get (.ref (s + 1)) dX7_tell_115 tf_7_12 (congrArg Prod.fst (se_s0 hk)) (congrArg va_rf (se_r0_0 hk)) ?_
      refine e_get (.ref (s + 8)) dX7_tell_118 tf_7_90 (congrArg Prod.fst (se_s1 hk)) (congrArg va_rf (se_r1_1 hk)) ?_
      refine z_iconst (0) dX7_tell_121 rfl ?_
      refine e_iload_n dX7_tell_122 rfl ?_
      refine e_callV [.int _, .int _] dX7_tell_123 tm_7_174 rfl (Nat.le_of_ble_eq_true rfl) (congrArg Prod.fst (se_s8 hk)) (Nat.le_of_ble_eq_true rfl) (Nat.le_refl _) (Nat.le_refl _) rfl (zp_X0_tell (se_bl8 hk) 0 ⟨by omega, by omega⟩ (w % 10) ⟨by omega, by omega⟩ ?_)
      have y12 := tellB_b h (s + 8) 0 (w % 10)
      refine z_iret dX7_tell_126 rfl ⟨rfl, ?_⟩
      refine z_q kq ?_
      rw [tellB_u HF (by omega) (by omega) (by omega)]; unfold tlS; rw [if_neg (show ¬ (0 ≤ w ∧ w < 10) by omega), if_neg (show ¬ w / 10 = 1 by omega)]; rw [if_neg (show ¬ w / 10 = 2 by omega), if_neg (show ¬ w / 10 = 3 by omega), if_neg (show ¬ w / 10 = 4 by omega), if_pos (show w / 10 = 5 by omega)]; rfl
    refine z_tableD 127 dX7_tell_16 ⟨by omega, by omega⟩ (by omega) rfl ?_
    refine z_bipush (-2) dX7_tell_127 rfl ?_
    refine z_iret dX7_tell_129 rfl ⟨rfl, ?_⟩
    refine z_q kq ?_
    unfold tlS; rw [if_neg (show ¬ (0 ≤ w ∧ w < 10) by omega), if_neg (by omega), if_neg (by omega), if_neg (by omega), if_neg (by omega), if_neg (by omega)]
  · skip
    refine z_bipush (-2) dX7_tell_4 rfl ?_
    refine z_iret dX7_tell_6 rfl ⟨rfl, ?_⟩
    refine z_q kq ?_
    unfold tlS; rw [if_neg (show ¬ (0 ≤ w ∧ w < 10) by omega), if_neg (by omega), if_neg (by omega), if_neg (by omega), if_neg (by omega), if_neg (by omega)]
