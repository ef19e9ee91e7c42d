/-! ALL THAT IS TOLD; the class's Told, the reference's slots, its hand -/
theorem dX8_forgeAt_0 : decode cX8_forgeAt 0 = .ok (.iload_n 1, 1) := by decide +kernel
theorem dX8_forgeAt_1 : decode cX8_forgeAt 1 = .ok (.ifCond .lt 27, 3) := by decide +kernel
theorem dX8_forgeAt_4 : decode cX8_forgeAt 4 = .ok (.iload_n 1, 1) := by decide +kernel
theorem dX8_forgeAt_5 : decode cX8_forgeAt 5 = .ok (.iconst 2, 1) := by decide +kernel
theorem dX8_forgeAt_6 : decode cX8_forgeAt 6 = .ok (.if_icmp .ge 22, 3) := by decide +kernel
theorem dX8_forgeAt_9 : decode cX8_forgeAt 9 = .ok (.iload_n 1, 1) := by decide +kernel
theorem dX8_forgeAt_10 : decode cX8_forgeAt 10 = .ok (.aload_n 0, 1) := by decide +kernel
theorem dX8_forgeAt_11 : decode cX8_forgeAt 11 = .ok (.getfield 33, 3) := by decide +kernel
theorem dX8_forgeAt_14 : decode cX8_forgeAt 14 = .ok (.iconst 0, 1) := by decide +kernel
theorem dX8_forgeAt_15 : decode cX8_forgeAt 15 = .ok (.iaload, 1) := by decide +kernel
theorem dX8_forgeAt_16 : decode cX8_forgeAt 16 = .ok (.if_icmp .ge 12, 3) := by decide +kernel
theorem dX8_forgeAt_19 : decode cX8_forgeAt 19 = .ok (.aload_n 0, 1) := by decide +kernel
theorem dX8_forgeAt_20 : decode cX8_forgeAt 20 = .ok (.getfield 17, 3) := by decide +kernel
theorem dX8_forgeAt_23 : decode cX8_forgeAt 23 = .ok (.iload_n 1, 1) := by decide +kernel
theorem dX8_forgeAt_24 : decode cX8_forgeAt 24 = .ok (.aaload, 1) := by decide +kernel
theorem dX8_forgeAt_25 : decode cX8_forgeAt 25 = .ok (.goto 4, 3) := by decide +kernel
theorem dX8_forgeAt_28 : decode cX8_forgeAt 28 = .ok (.aconst_null, 1) := by decide +kernel
theorem dX8_forgeAt_29 : decode cX8_forgeAt 29 = .ok (.areturn, 1) := by decide +kernel
theorem dX8_yearAt_0 : decode cX8_yearAt 0 = .ok (.iload_n 1, 1) := by decide +kernel
theorem dX8_yearAt_1 : decode cX8_yearAt 1 = .ok (.ifCond .lt 27, 3) := by decide +kernel
theorem dX8_yearAt_4 : decode cX8_yearAt 4 = .ok (.iload_n 1, 1) := by decide +kernel
theorem dX8_yearAt_5 : decode cX8_yearAt 5 = .ok (.iconst 2, 1) := by decide +kernel
theorem dX8_yearAt_6 : decode cX8_yearAt 6 = .ok (.if_icmp .ge 22, 3) := by decide +kernel
theorem dX8_yearAt_9 : decode cX8_yearAt 9 = .ok (.iload_n 1, 1) := by decide +kernel
theorem dX8_yearAt_10 : decode cX8_yearAt 10 = .ok (.aload_n 0, 1) := by decide +kernel
theorem dX8_yearAt_11 : decode cX8_yearAt 11 = .ok (.getfield 33, 3) := by decide +kernel
theorem dX8_yearAt_14 : decode cX8_yearAt 14 = .ok (.iconst 1, 1) := by decide +kernel
theorem dX8_yearAt_15 : decode cX8_yearAt 15 = .ok (.iaload, 1) := by decide +kernel
theorem dX8_yearAt_16 : decode cX8_yearAt 16 = .ok (.if_icmp .ge 12, 3) := by decide +kernel
theorem dX8_yearAt_19 : decode cX8_yearAt 19 = .ok (.aload_n 0, 1) := by decide +kernel
theorem dX8_yearAt_20 : decode cX8_yearAt 20 = .ok (.getfield 23, 3) := by decide +kernel
theorem dX8_yearAt_23 : decode cX8_yearAt 23 = .ok (.iload_n 1, 1) := by decide +kernel
theorem dX8_yearAt_24 : decode cX8_yearAt 24 = .ok (.aaload, 1) := by decide +kernel
theorem dX8_yearAt_25 : decode cX8_yearAt 25 = .ok (.goto 4, 3) := by decide +kernel
theorem dX8_yearAt_28 : decode cX8_yearAt 28 = .ok (.aconst_null, 1) := by decide +kernel
theorem dX8_yearAt_29 : decode cX8_yearAt 29 = .ok (.areturn, 1) := by decide +kernel
theorem dX8_cluesAt_0 : decode cX8_cluesAt 0 = .ok (.iload_n 1, 1) := by decide +kernel
theorem dX8_cluesAt_1 : decode cX8_cluesAt 1 = .ok (.ifCond .lt 27, 3) := by decide +kernel
theorem dX8_cluesAt_4 : decode cX8_cluesAt 4 = .ok (.iload_n 1, 1) := by decide +kernel
theorem dX8_cluesAt_5 : decode cX8_cluesAt 5 = .ok (.iconst 2, 1) := by decide +kernel
theorem dX8_cluesAt_6 : decode cX8_cluesAt 6 = .ok (.if_icmp .ge 22, 3) := by decide +kernel
theorem dX8_cluesAt_9 : decode cX8_cluesAt 9 = .ok (.iload_n 1, 1) := by decide +kernel
theorem dX8_cluesAt_10 : decode cX8_cluesAt 10 = .ok (.aload_n 0, 1) := by decide +kernel
theorem dX8_cluesAt_11 : decode cX8_cluesAt 11 = .ok (.getfield 33, 3) := by decide +kernel
theorem dX8_cluesAt_14 : decode cX8_cluesAt 14 = .ok (.iconst 2, 1) := by decide +kernel
theorem dX8_cluesAt_15 : decode cX8_cluesAt 15 = .ok (.iaload, 1) := by decide +kernel
theorem dX8_cluesAt_16 : decode cX8_cluesAt 16 = .ok (.if_icmp .ge 12, 3) := by decide +kernel
theorem dX8_cluesAt_19 : decode cX8_cluesAt 19 = .ok (.aload_n 0, 1) := by decide +kernel
theorem dX8_cluesAt_20 : decode cX8_cluesAt 20 = .ok (.getfield 29, 3) := by decide +kernel
theorem dX8_cluesAt_23 : decode cX8_cluesAt 23 = .ok (.iload_n 1, 1) := by decide +kernel
theorem dX8_cluesAt_24 : decode cX8_cluesAt 24 = .ok (.aaload, 1) := by decide +kernel
theorem dX8_cluesAt_25 : decode cX8_cluesAt 25 = .ok (.goto 4, 3) := by decide +kernel
theorem dX8_cluesAt_28 : decode cX8_cluesAt 28 = .ok (.aconst_null, 1) := by decide +kernel
theorem dX8_cluesAt_29 : decode cX8_cluesAt 29 = .ok (.areturn, 1) := by decide +kernel
theorem dX12_hand_0 : decode cX12_hand 0 = .ok (.aload_n 0, 1) := by decide +kernel
theorem dX12_hand_1 : decode cX12_hand 1 = .ok (.iconst 0, 1) := by decide +kernel
theorem dX12_hand_2 : decode cX12_hand 2 = .ok (.iload_n 1, 1) := by decide +kernel
theorem dX12_hand_3 : decode cX12_hand 3 = .ok (.invokevirtual 254, 3) := by decide +kernel
theorem dX12_hand_6 : decode cX12_hand 6 = .ok (.ifCond .ne 5, 3) := by decide +kernel
theorem dX12_hand_9 : decode cX12_hand 9 = .ok (.iconst 0, 1) := by decide +kernel
theorem dX12_hand_10 : decode cX12_hand 10 = .ok (.ireturn, 1) := by decide +kernel
theorem dX12_hand_11 : decode cX12_hand 11 = .ok (.aload_n 0, 1) := by decide +kernel
theorem dX12_hand_12 : decode cX12_hand 12 = .ok (.iload_n 1, 1) := by decide +kernel
theorem dX12_hand_13 : decode cX12_hand 13 = .ok (.putfield 264, 3) := by decide +kernel
theorem dX12_hand_16 : decode cX12_hand 16 = .ok (.aload_n 0, 1) := by decide +kernel
theorem dX12_hand_17 : decode cX12_hand 17 = .ok (.aload_n 0, 1) := by decide +kernel
theorem dX12_hand_18 : decode cX12_hand 18 = .ok (.iconst 0, 1) := by decide +kernel
theorem dX12_hand_19 : decode cX12_hand 19 = .ok (.invokevirtual 267, 3) := by decide +kernel
theorem dX12_hand_22 : decode cX12_hand 22 = .ok (.putfield 271, 3) := by decide +kernel
theorem dX12_hand_25 : decode cX12_hand 25 = .ok (.aload_n 0, 1) := by decide +kernel
theorem dX12_hand_26 : decode cX12_hand 26 = .ok (.aload_n 0, 1) := by decide +kernel
theorem dX12_hand_27 : decode cX12_hand 27 = .ok (.iconst 1, 1) := by decide +kernel
theorem dX12_hand_28 : decode cX12_hand 28 = .ok (.invokevirtual 267, 3) := by decide +kernel
theorem dX12_hand_31 : decode cX12_hand 31 = .ok (.putfield 274, 3) := by decide +kernel
theorem dX12_hand_34 : decode cX12_hand 34 = .ok (.aload_n 0, 1) := by decide +kernel
theorem dX12_hand_35 : decode cX12_hand 35 = .ok (.aload_n 0, 1) := by decide +kernel
theorem dX12_hand_36 : decode cX12_hand 36 = .ok (.iconst 2, 1) := by decide +kernel
theorem dX12_hand_37 : decode cX12_hand 37 = .ok (.invokevirtual 267, 3) := by decide +kernel
theorem dX12_hand_40 : decode cX12_hand 40 = .ok (.putfield 277, 3) := by decide +kernel
theorem dX12_hand_43 : decode cX12_hand 43 = .ok (.iconst 0, 1) := by decide +kernel
theorem dX12_hand_44 : decode cX12_hand 44 = .ok (.istore_n 2, 1) := by decide +kernel
theorem dX12_hand_45 : decode cX12_hand 45 = .ok (.iload_n 2, 1) := by decide +kernel
theorem dX12_hand_46 : decode cX12_hand 46 = .ok (.bipush 12, 2) := by decide +kernel
theorem dX12_hand_48 : decode cX12_hand 48 = .ok (.if_icmp .ge 91, 3) := by decide +kernel
theorem dX12_hand_51 : decode cX12_hand 51 = .ok (.bipush 30, 2) := by decide +kernel
theorem dX12_hand_53 : decode cX12_hand 53 = .ok (.iload_n 2, 1) := by decide +kernel
theorem dX12_hand_54 : decode cX12_hand 54 = .ok (.bipush 6, 2) := by decide +kernel
theorem dX12_hand_56 : decode cX12_hand 56 = .ok (.idiv, 1) := by decide +kernel
theorem dX12_hand_57 : decode cX12_hand 57 = .ok (.imul, 1) := by decide +kernel
theorem dX12_hand_58 : decode cX12_hand 58 = .ok (.iload_n 2, 1) := by decide +kernel
theorem dX12_hand_59 : decode cX12_hand 59 = .ok (.bipush 6, 2) := by decide +kernel
theorem dX12_hand_61 : decode cX12_hand 61 = .ok (.irem, 1) := by decide +kernel
theorem dX12_hand_62 : decode cX12_hand 62 = .ok (.iadd, 1) := by decide +kernel
theorem dX12_hand_63 : decode cX12_hand 63 = .ok (.istore_n 3, 1) := by decide +kernel
theorem dX12_hand_64 : decode cX12_hand 64 = .ok (.aload_n 0, 1) := by decide +kernel
theorem dX12_hand_65 : decode cX12_hand 65 = .ok (.getfield 41, 3) := by decide +kernel
theorem dX12_hand_68 : decode cX12_hand 68 = .ok (.iload_n 2, 1) := by decide +kernel
theorem dX12_hand_69 : decode cX12_hand 69 = .ok (.aload_n 0, 1) := by decide +kernel
theorem dX12_hand_70 : decode cX12_hand 70 = .ok (.iconst 3, 1) := by decide +kernel
theorem dX12_hand_71 : decode cX12_hand 71 = .ok (.iload_n 3, 1) := by decide +kernel
theorem dX12_hand_72 : decode cX12_hand 72 = .ok (.iadd, 1) := by decide +kernel
theorem dX12_hand_73 : decode cX12_hand 73 = .ok (.invokevirtual 267, 3) := by decide +kernel
theorem dX12_hand_76 : decode cX12_hand 76 = .ok (.iastore, 1) := by decide +kernel
theorem dX12_hand_77 : decode cX12_hand 77 = .ok (.aload_n 0, 1) := by decide +kernel
theorem dX12_hand_78 : decode cX12_hand 78 = .ok (.getfield 44, 3) := by decide +kernel
theorem dX12_hand_81 : decode cX12_hand 81 = .ok (.iload_n 2, 1) := by decide +kernel
theorem dX12_hand_82 : decode cX12_hand 82 = .ok (.aload_n 0, 1) := by decide +kernel
theorem dX12_hand_83 : decode cX12_hand 83 = .ok (.bipush 9, 2) := by decide +kernel
theorem dX12_hand_85 : decode cX12_hand 85 = .ok (.iload_n 3, 1) := by decide +kernel
theorem dX12_hand_86 : decode cX12_hand 86 = .ok (.iadd, 1) := by decide +kernel
theorem dX12_hand_87 : decode cX12_hand 87 = .ok (.invokevirtual 267, 3) := by decide +kernel
theorem dX12_hand_90 : decode cX12_hand 90 = .ok (.iastore, 1) := by decide +kernel
theorem dX12_hand_91 : decode cX12_hand 91 = .ok (.aload_n 0, 1) := by decide +kernel
theorem dX12_hand_92 : decode cX12_hand 92 = .ok (.getfield 47, 3) := by decide +kernel
theorem dX12_hand_95 : decode cX12_hand 95 = .ok (.iload_n 2, 1) := by decide +kernel
theorem dX12_hand_96 : decode cX12_hand 96 = .ok (.aload_n 0, 1) := by decide +kernel
theorem dX12_hand_97 : decode cX12_hand 97 = .ok (.bipush 15, 2) := by decide +kernel
theorem dX12_hand_99 : decode cX12_hand 99 = .ok (.iload_n 3, 1) := by decide +kernel
theorem dX12_hand_100 : decode cX12_hand 100 = .ok (.iadd, 1) := by decide +kernel
theorem dX12_hand_101 : decode cX12_hand 101 = .ok (.invokevirtual 267, 3) := by decide +kernel
theorem dX12_hand_104 : decode cX12_hand 104 = .ok (.iastore, 1) := by decide +kernel
theorem dX12_hand_105 : decode cX12_hand 105 = .ok (.aload_n 0, 1) := by decide +kernel
theorem dX12_hand_106 : decode cX12_hand 106 = .ok (.getfield 50, 3) := by decide +kernel
theorem dX12_hand_109 : decode cX12_hand 109 = .ok (.iload_n 2, 1) := by decide +kernel
theorem dX12_hand_110 : decode cX12_hand 110 = .ok (.aload_n 0, 1) := by decide +kernel
theorem dX12_hand_111 : decode cX12_hand 111 = .ok (.bipush 21, 2) := by decide +kernel
theorem dX12_hand_113 : decode cX12_hand 113 = .ok (.iload_n 3, 1) := by decide +kernel
theorem dX12_hand_114 : decode cX12_hand 114 = .ok (.iadd, 1) := by decide +kernel
theorem dX12_hand_115 : decode cX12_hand 115 = .ok (.invokevirtual 267, 3) := by decide +kernel
theorem dX12_hand_118 : decode cX12_hand 118 = .ok (.iastore, 1) := by decide +kernel
theorem dX12_hand_119 : decode cX12_hand 119 = .ok (.aload_n 0, 1) := by decide +kernel
theorem dX12_hand_120 : decode cX12_hand 120 = .ok (.getfield 53, 3) := by decide +kernel
theorem dX12_hand_123 : decode cX12_hand 123 = .ok (.iload_n 2, 1) := by decide +kernel
theorem dX12_hand_124 : decode cX12_hand 124 = .ok (.aload_n 0, 1) := by decide +kernel
theorem dX12_hand_125 : decode cX12_hand 125 = .ok (.bipush 27, 2) := by decide +kernel
theorem dX12_hand_127 : decode cX12_hand 127 = .ok (.iload_n 3, 1) := by decide +kernel
theorem dX12_hand_128 : decode cX12_hand 128 = .ok (.iadd, 1) := by decide +kernel
theorem dX12_hand_129 : decode cX12_hand 129 = .ok (.invokevirtual 267, 3) := by decide +kernel
theorem dX12_hand_132 : decode cX12_hand 132 = .ok (.iastore, 1) := by decide +kernel
theorem dX12_hand_133 : decode cX12_hand 133 = .ok (.iinc 2 1, 3) := by decide +kernel
theorem dX12_hand_136 : decode cX12_hand 136 = .ok (.goto (-91), 3) := by decide +kernel
theorem dX12_hand_139 : decode cX12_hand 139 = .ok (.iconst 1, 1) := by decide +kernel
theorem dX12_hand_140 : decode cX12_hand 140 = .ok (.ireturn, 1) := by decide +kernel
/-- all that is told: numbers (0, 1, 2 how many; 3 the tape's length, 4 the fault, 5 its place), forges, years, clues, the tape -/
abbrev Sg : Type := (Int → Int) × (Int → Int → Int) × (Int → Int → Int) × (Int → Int → Int) × (Int → Int)
def cn (σ : Sg) (s : Int) : Int := σ.1 s
def sG (σ : Sg) (k : Int) : Int → Int := σ.2.1 k
def sY (σ : Sg) (k : Int) : Int → Int := σ.2.2.1 k
def sC (σ : Sg) (k : Int) : Int → Int := σ.2.2.2.1 k
def sT (σ : Sg) (i : Int) : Int := σ.2.2.2.2 i
def ysr (y : Int → Int) (k : Int) : Int := y (1 + 3 * k)
def yfi (y : Int → Int) (k : Int) : Int := y (2 + 3 * k)
def yse (y : Int → Int) (k : Int) : Int := y (3 + 3 * k)
def wfY (y : Int → Int) : Prop := (0 ≤ y 0 ∧ y 0 ≤ 40) ∧ ∀ k, 0 ≤ k → k < y 0 → (0 ≤ ysr y k ∧ ysr y k ≤ 6) ∧ (-1 ≤ yfi y k ∧ yfi y k ≤ 5) ∧ (-1 ≤ yse y k ∧ yse y k ≤ 5) ∧ (ysr y k = 0 ∨ ysr y k = 3 → 0 ≤ yfi y k ∧ 0 ≤ yse y k) ∧ (ysr y k = 1 ∨ ysr y k = 2 ∨ ysr y k = 5 → 0 ≤ yfi y k) ∧ (ysr y k = 4 → 0 ≤ yfi y k ∧ yfi y k ≤ 1 ∧ 0 ≤ yse y k)
def wfK (c : Int → Int) : Prop := (0 ≤ c 0 ∧ c 0 ≤ 8) ∧ ∀ k, 0 ≤ k → k < c 0 → (0 ≤ ysr c k ∧ ysr c k ≤ 3) ∧ (0 ≤ yfi c k ∧ yfi c k ≤ 40) ∧ (0 ≤ yse c k ∧ yse c k ≤ 1)
def isY (h : mH) (a : Nat) (y : Int → Int) : Prop := wfY y ∧ rI h a 3 = y 0 ∧ ∀ k : Int, 0 ≤ k → k < y 0 → rI h (a + 1) k = ysr y k ∧ rI h (a + 2) k = yfi y k ∧ rI h (a + 3) k = yse y k
def isK (h : mH) (a : Nat) (c : Int → Int) : Prop := wfK c ∧ rI h a 3 = c 0 ∧ ∀ k : Int, 0 ≤ k → k < c 0 → rI h (a + 1) k = ysr c k ∧ rI h (a + 2) k = yfi c k ∧ rI h (a + 3) k = yse c k
theorem isY_q {h h1 : mH} {f : Nat} {g : Int → Int} (e : ∀ a, f ≤ a → a < f + 4 → ∀ z, rI h1 a z = rI h a z) (H : isY h f g) : isY h1 f g := by
  obtain ⟨w, a, b⟩ := H
  refine ⟨w, (e f (by omega) (by omega) _).trans a, fun k x y => ?_⟩
  obtain ⟨p, q, r⟩ := b k x y
  exact ⟨(e _ (by omega) (by omega) _).trans p, (e _ (by omega) (by omega) _).trans q, (e _ (by omega) (by omega) _).trans r⟩
theorem isK_q {h h1 : mH} {f : Nat} {g : Int → Int} (e : ∀ a, f ≤ a → a < f + 4 → ∀ z, rI h1 a z = rI h a z) (H : isK h f g) : isK h1 f g := by
  obtain ⟨w, a, b⟩ := H
  refine ⟨w, (e f (by omega) (by omega) _).trans a, fun k x y => ?_⟩
  obtain ⟨p, q, r⟩ := b k x y
  exact ⟨(e _ (by omega) (by omega) _).trans p, (e _ (by omega) (by omega) _).trans q, (e _ (by omega) (by omega) _).trans r⟩
theorem isY_c {S : Nat → Nat → Prop} {h h1 : mH} {f : Nat} {g : Int → Int} (s : frm S h h1) (n : ∀ a k, f ≤ a → a < f + 4 → ¬ S a k) (H : isY h f g) : isY h1 f g := isY_q (fun a x y z => frm_r s (n a z.toNat x y)) H
theorem isK_c {S : Nat → Nat → Prop} {h h1 : mH} {f : Nat} {g : Int → Int} (s : frm S h h1) (n : ∀ a k, f ≤ a → a < f + 4 → ¬ S a k) (H : isK h f g) : isK h1 f g := isK_q (fun a x y z => frm_r s (n a z.toNat x y)) H
def wfS (σ : Sg) : Prop := ((0 ≤ cn σ 0 ∧ cn σ 0 ≤ 2) ∧ (0 ≤ cn σ 1 ∧ cn σ 1 ≤ 2) ∧ (0 ≤ cn σ 2 ∧ cn σ 2 ≤ 2) ∧ (0 ≤ cn σ 3 ∧ cn σ 3 ≤ 600) ∧ (0 ≤ cn σ 4 ∧ cn σ 4 ≤ 4) ∧ (-1 ≤ cn σ 5 ∧ cn σ 5 ≤ 600)) ∧ (∀ i, 0 ≤ i → i < 600 → -128 ≤ sT σ i ∧ sT σ i < 128) ∧ (∀ k, 0 ≤ k → k < cn σ 0 → wfF (sG σ k)) ∧ (∀ k, 0 ≤ k → k < cn σ 1 → wfY (sY σ k)) ∧ (∀ k, 0 ≤ k → k < cn σ 2 → wfK (sC σ k))
theorem wS_n {σ : Sg} (w : wfS σ) : (0 ≤ cn σ 0 ∧ cn σ 0 ≤ 2) ∧ (0 ≤ cn σ 1 ∧ cn σ 1 ≤ 2) ∧ (0 ≤ cn σ 2 ∧ cn σ 2 ≤ 2) ∧ (0 ≤ cn σ 3 ∧ cn σ 3 ≤ 600) ∧ (0 ≤ cn σ 4 ∧ cn σ 4 ≤ 4) ∧ (-1 ≤ cn σ 5 ∧ cn σ 5 ≤ 600) := w.1
theorem wS_t {σ : Sg} (w : wfS σ) {i : Int} (h0 : 0 ≤ i) (h1 : i < 600) : -128 ≤ sT σ i ∧ sT σ i < 128 := w.2.1 i h0 h1
theorem wS_c {σ : Sg} (w : wfS σ) {s : Int} (h0 : 0 ≤ s) (h1 : s < 3) : 0 ≤ cn σ s ∧ cn σ s ≤ 2 := by
  have := w.1
  rcases (show s = 0 ∨ s = 1 ∨ s = 2 by omega) with q | q | q <;> subst q <;> omega
def fAt (t : Nat) (k : Int) : Nat := if k = 0 then t + 6 else t + 30
def yAt (t : Nat) (k : Int) : Nat := if k = 0 then t + 22 else t + 46
def kAt (t : Nat) (k : Int) : Nat := if k = 0 then t + 26 else t + 50
theorem fAt_b (t : Nat) (k : Int) : fAt t k = t + 6 ∨ fAt t k = t + 30 := by unfold fAt; split <;> omega
theorem yAt_b (t : Nat) (k : Int) : yAt t k = t + 22 ∨ yAt t k = t + 46 := by unfold yAt; split <;> omega
theorem kAt_b (t : Nat) (k : Int) : kAt t k = t + 26 ∨ kAt t k = t + 50 := by unfold kAt; split <;> omega
theorem fAt_k {h : mH} {t : Nat} (hk : tdk h t) (k : Int) : fgk h (fAt t k) := by unfold fAt; split; exact td_fg6 hk; exact td_fg30 hk
theorem yAt_k {h : mH} {t : Nat} (hk : tdk h t) (k : Int) : yrk h (yAt t k) := by unfold yAt; split; exact td_yr22 hk; exact td_yr46 hk
theorem kAt_k {h : mH} {t : Nat} (hk : tdk h t) (k : Int) : cuk h (kAt t k) := by unfold kAt; split; exact td_cu26 hk; exact td_cu50 hk
theorem fAt_r {h : mH} {t : Nat} (hk : tdk h t) {k : Int} (h0 : 0 ≤ k) (h1 : k < 2) : mR h (t + 2) k.toNat = some (fAt t k) := by
  rcases (show k = 0 ∨ k = 1 by omega) with q | q <;> subst q
  · exact td_r2_0 hk
  · exact td_r2_1 hk
theorem yAt_r {h : mH} {t : Nat} (hk : tdk h t) {k : Int} (h0 : 0 ≤ k) (h1 : k < 2) : mR h (t + 3) k.toNat = some (yAt t k) := by
  rcases (show k = 0 ∨ k = 1 by omega) with q | q <;> subst q
  · exact td_r3_0 hk
  · exact td_r3_1 hk
theorem kAt_r {h : mH} {t : Nat} (hk : tdk h t) {k : Int} (h0 : 0 ≤ k) (h1 : k < 2) : mR h (t + 4) k.toNat = some (kAt t k) := by
  rcases (show k = 0 ∨ k = 1 by omega) with q | q <;> subst q
  · exact td_r4_0 hk
  · exact td_r4_1 hk
/-- the class's Told at t holds σ -/
def clsT (h : mH) (t : Nat) (σ : Sg) : Prop := wfS σ ∧ (∀ i : Int, 0 ≤ i → i < 600 → rI h (t + 1) i = sT σ i) ∧ (∀ s : Int, 0 ≤ s → s < 3 → rI h (t + 5) s = cn σ s) ∧ (rI h t 5 = cn σ 3 ∧ rI h t 6 = cn σ 4 ∧ rI h t 7 = cn σ 5) ∧ (∀ k : Int, 0 ≤ k → k < cn σ 0 → isF h (fAt t k) (sG σ k)) ∧ (∀ k : Int, 0 ≤ k → k < cn σ 1 → isY h (yAt t k) (sY σ k)) ∧ (∀ k : Int, 0 ≤ k → k < cn σ 2 → isK h (kAt t k) (sC σ k))
theorem clsT_w {h : mH} {t : Nat} {σ : Sg} (H : clsT h t σ) : wfS σ := H.1
theorem clsT_t {h : mH} {t : Nat} {σ : Sg} (H : clsT h t σ) {i : Int} (h0 : 0 ≤ i) (h1 : i < 600) : rI h (t + 1) i = sT σ i := H.2.1 i h0 h1
theorem clsT_cn {h : mH} {t : Nat} {σ : Sg} (H : clsT h t σ) {i : Int} (h0 : 0 ≤ i) (h1 : i < 3) : rI h (t + 5) i = cn σ i := H.2.2.1 i h0 h1
theorem clsT_3 {h : mH} {t : Nat} {σ : Sg} (H : clsT h t σ) : rI h t 5 = cn σ 3 := H.2.2.2.1.1
theorem clsT_4 {h : mH} {t : Nat} {σ : Sg} (H : clsT h t σ) : rI h t 6 = cn σ 4 := H.2.2.2.1.2.1
theorem clsT_5 {h : mH} {t : Nat} {σ : Sg} (H : clsT h t σ) : rI h t 7 = cn σ 5 := H.2.2.2.1.2.2
theorem clsT_F {h : mH} {t : Nat} {σ : Sg} (H : clsT h t σ) {k : Int} (h0 : 0 ≤ k) (h1 : k < cn σ 0) : isF h (fAt t k) (sG σ k) := H.2.2.2.2.1 k h0 h1
theorem clsT_Y {h : mH} {t : Nat} {σ : Sg} (H : clsT h t σ) {k : Int} (h0 : 0 ≤ k) (h1 : k < cn σ 1) : isY h (yAt t k) (sY σ k) := H.2.2.2.2.2.1 k h0 h1
theorem clsT_K {h : mH} {t : Nat} {σ : Sg} (H : clsT h t σ) {k : Int} (h0 : 0 ≤ k) (h1 : k < cn σ 2) : isK h (kAt t k) (sC σ k) := H.2.2.2.2.2.2 k h0 h1
theorem clsT_q {h h1 : mH} {t : Nat} {σ : Sg} (e : ∀ a, t ≤ a → a < t + 54 → ∀ z, rI h1 a z = rI h a z) (H : clsT h t σ) : clsT h1 t σ := by
  obtain ⟨w, a, b, ⟨c1, c2, c3⟩, d, y, k⟩ := H
  refine ⟨w, fun i p q => (e _ (by omega) (by omega) _).trans (a i p q), fun i p q => (e _ (by omega) (by omega) _).trans (b i p q), ⟨(e _ (by omega) (by omega) _).trans c1, (e _ (by omega) (by omega) _).trans c2, (e _ (by omega) (by omega) _).trans c3⟩, fun i p q => isF_q (fun a x y z => e a (by have := fAt_b t i; omega) (by have := fAt_b t i; omega) z) (d i p q), fun i p q => isY_q (fun a x y z => e a (by have := yAt_b t i; omega) (by have := yAt_b t i; omega) z) (y i p q), fun i p q => isK_q (fun a x y z => e a (by have := kAt_b t i; omega) (by have := kAt_b t i; omega) z) (k i p q)⟩
theorem clsT_c {S : Nat → Nat → Prop} {h h1 : mH} {t : Nat} {σ : Sg} (s : frm S h h1) (n : ∀ a k, t ≤ a → a < t + 54 → ¬ S a k) (H : clsT h t σ) : clsT h1 t σ := clsT_q (fun a x y z => frm_r s (n a z.toNat x y)) H
/-- the reference's slot s holds σ -/
def refT (h : mH) (m : Nat) (s : Int) (σ : Sg) : Prop := wfS σ ∧ (∀ i : Int, 0 ≤ i → i < 600 → rI h (m + 1) (600 * s + i) = sT σ i) ∧ (∀ q : Int, 0 ≤ q → q < 3 → rI h (m + 5) (3 * s + q) = cn σ q) ∧ (rI h (m + 2) s = cn σ 3 ∧ rI h (m + 3) s = cn σ 4 ∧ rI h (m + 4) s = cn σ 5) ∧ (∀ k : Int, 0 ≤ k → k < cn σ 0 → ∀ i : Int, 0 ≤ i → i < 81 → rI h (m + 6) (162 * s + (81 * k + i)) = sG σ k i) ∧ (∀ k : Int, 0 ≤ k → k < cn σ 1 → ∀ i : Int, 0 ≤ i → i < 121 → rI h (m + 7) (242 * s + (121 * k + i)) = sY σ k i) ∧ (∀ k : Int, 0 ≤ k → k < cn σ 2 → ∀ i : Int, 0 ≤ i → i < 25 → rI h (m + 8) (50 * s + (25 * k + i)) = sC σ k i)
theorem refT_w {h : mH} {m : Nat} {s : Int} {σ : Sg} (H : refT h m s σ) : wfS σ := H.1
theorem refT_t {h : mH} {m : Nat} {σ : Sg} (H : refT h m 0 σ) {i : Int} (h0 : 0 ≤ i) (h1 : i < 600) : rI h (m + 1) i = sT σ i := by
  have := H.2.1 i h0 h1
  rw [show 600 * 0 + i = i by omega] at this; exact this
theorem refT_cn {h : mH} {m : Nat} {σ : Sg} (H : refT h m 0 σ) {i : Int} (h0 : 0 ≤ i) (h1 : i < 3) : rI h (m + 5) i = cn σ i := by
  have := H.2.2.1 i h0 h1
  rw [show 3 * 0 + i = i by omega] at this; exact this
theorem refT_3 {h : mH} {m : Nat} {σ : Sg} (H : refT h m 0 σ) : rI h (m + 2) 0 = cn σ 3 := H.2.2.2.1.1
theorem refT_4 {h : mH} {m : Nat} {σ : Sg} (H : refT h m 0 σ) : rI h (m + 3) 0 = cn σ 4 := H.2.2.2.1.2.1
theorem refT_5 {h : mH} {m : Nat} {σ : Sg} (H : refT h m 0 σ) : rI h (m + 4) 0 = cn σ 5 := H.2.2.2.1.2.2
theorem refT_G {h : mH} {m : Nat} {σ : Sg} (H : refT h m 0 σ) {k i : Int} (h0 : 0 ≤ k) (h1 : k < cn σ 0) (i0 : 0 ≤ i) (i1 : i < 81) : rI h (m + 6) (81 * k + i) = sG σ k i := by
  have := H.2.2.2.2.1 k h0 h1 i i0 i1
  rw [show 162 * 0 + (81 * k + i) = 81 * k + i by omega] at this; exact this
theorem refT_Y {h : mH} {m : Nat} {σ : Sg} (H : refT h m 0 σ) {k i : Int} (h0 : 0 ≤ k) (h1 : k < cn σ 1) (i0 : 0 ≤ i) (i1 : i < 121) : rI h (m + 7) (121 * k + i) = sY σ k i := by
  have := H.2.2.2.2.2.1 k h0 h1 i i0 i1
  rw [show 242 * 0 + (121 * k + i) = 121 * k + i by omega] at this; exact this
theorem refT_K {h : mH} {m : Nat} {σ : Sg} (H : refT h m 0 σ) {k i : Int} (h0 : 0 ≤ k) (h1 : k < cn σ 2) (i0 : 0 ≤ i) (i1 : i < 25) : rI h (m + 8) (25 * k + i) = sC σ k i := by
  have := H.2.2.2.2.2.2 k h0 h1 i i0 i1
  rw [show 50 * 0 + (25 * k + i) = 25 * k + i by omega] at this; exact this
theorem refT_q {h h1 : mH} {m : Nat} {s : Int} {σ : Sg} (e : ∀ a, m + 1 ≤ a → a < m + 9 → ∀ z, rI h1 a z = rI h a z) (H : refT h m s σ) : refT h1 m s σ := by
  obtain ⟨w, a, b, ⟨c1, c2, c3⟩, d, y, k⟩ := H
  exact ⟨w, fun i p q => (e _ (by omega) (by omega) _).trans (a i p q), fun i p q => (e _ (by omega) (by omega) _).trans (b i p q), ⟨(e _ (by omega) (by omega) _).trans c1, (e _ (by omega) (by omega) _).trans c2, (e _ (by omega) (by omega) _).trans c3⟩, fun i p q j r t => (e _ (by omega) (by omega) _).trans (d i p q j r t), fun i p q j r t => (e _ (by omega) (by omega) _).trans (y i p q j r t), fun i p q j r t => (e _ (by omega) (by omega) _).trans (k i p q j r t)⟩
theorem refT_c {S : Nat → Nat → Prop} {h h1 : mH} {m : Nat} {s : Int} {σ : Sg} (f : frm S h h1) (n : ∀ a k, m + 1 ≤ a → a < m + 9 → ¬ S a k) (H : refT h m s σ) : refT h1 m s σ := refT_q (fun a x y z => frm_r f (n a z.toNat x y)) H
/-- the forge in the reference's hand -/
def rK (h : mH) (m : Nat) (k : Int) : Prop := rI h m 23 = k ∧ 0 ≤ k ∧ k < 2
theorem rK_c {S : Nat → Nat → Prop} {h h1 : mH} {m : Nat} {k : Int} (s : frm S h h1) (n : ∀ a i, a = m → i = 23 → ¬ S a i) (H : rK h m k) : rK h1 m k := ⟨(frm_r s (n m 23 rfl rfl)).trans H.1, H.2⟩
theorem rI_r {h : mH} {a : Nat} {z v : Int} (e : rI h a z = v) : -2147483648 ≤ v ∧ v < 2147483648 := by rw [← e]; exact rI_i h a z
set_option maxHeartbeats 400000 in
theorem zp_X8_forgeAt_in {ad : mA} {dd : Nat} {h : mH} {Q : mQ} {t : Nat} {σ : Sg} (hk : tdk h t) (HT : clsT h t σ)  (n : Int) (n_r : -2147483648 ≤ n ∧ n < 2147483648) (p1 : 0 ≤ n) (p2 : n < cn σ 0) (kq : Q (some (.ref (fAt t n))) h) : mCal TB0 ad (dd + 1) M_X8_forgeAt [.ref t, .int (zI n)] h 0 0 Q := by
  refine ⟨Nat.le_of_ble_eq_true rfl, ?_⟩
  show mEv TB0 ad M_X8_forgeAt (dd + 1) (0, 0) (mCal TB0 ad (dd + 0)) (fun v h' z => z.1 = 0 ∧ Q v h') 0 [some (.ref t), some (.int (zI n))] [] h (0, 0)
  have w1 := wS_n (clsT_w HT)
  refine e_iload_n dX8_forgeAt_0 rfl ?_
  refine z_if_lt 28 dX8_forgeAt_1 rfl ⟨by omega, by omega⟩ (fun c1 => ?_) (fun c1 => ?_)
  · exfalso; omega
  · skip
    refine e_iload_n dX8_forgeAt_4 rfl ?_
    refine z_iconst (2) dX8_forgeAt_5 rfl ?_
    refine z_icmp_ge 28 dX8_forgeAt_6 rfl ⟨by omega, by omega⟩ ⟨by omega, by omega⟩ (fun c2 => ?_) (fun c2 => ?_)
    · exfalso; omega
    · skip
      refine e_iload_n dX8_forgeAt_9 rfl ?_
      refine e_aload_n dX8_forgeAt_10 rfl ?_
      refine e_get (.ref (t + 5)) dX8_forgeAt_11 tf_8_33 (congrArg Prod.fst (td_s0 hk)) (congrArg va_rf (td_r0_4 hk)) ?_
      refine z_iconst (0) dX8_forgeAt_14 rfl ?_
      refine z_ild (cn σ 0) dX8_forgeAt_15 (td_s5 hk) (by decide) (by omega) (by omega) (clsT_cn HT (by omega) (by omega)) ?_
      have y3 := wS_n (clsT_w HT)
      refine z_icmp_ge 28 dX8_forgeAt_16 rfl ⟨by omega, by omega⟩ ⟨by omega, by omega⟩ (fun c4 => ?_) (fun c4 => ?_)
      · exfalso; omega
      · skip
        refine e_aload_n dX8_forgeAt_19 rfl ?_
        refine e_get (.ref (t + 2)) dX8_forgeAt_20 tf_8_17 (congrArg Prod.fst (td_s0 hk)) (congrArg va_rf (td_r0_1 hk)) ?_
        refine e_iload_n dX8_forgeAt_23 rfl ?_
        refine z_ald (.ref (fAt t n)) dX8_forgeAt_24 (td_s2 hk) (by decide) (by decide) (by decide) (by omega) (by omega) (congrArg va_rf (fAt_r hk (by omega) (by omega))) ?_
        refine e_goto 29 dX8_forgeAt_25 rfl ?_
        refine e_aret dX8_forgeAt_29 rfl ⟨rfl, ?_⟩
        exact kq
set_option maxHeartbeats 400000 in
theorem zp_X8_forgeAt_out {ad : mA} {dd : Nat} {h : mH} {Q : mQ} {t : Nat} {σ : Sg} (hk : tdk h t) (HT : clsT h t σ)  (n : Int) (n_r : -2147483648 ≤ n ∧ n < 2147483648) (p1 : ¬ (0 ≤ n ∧ n < cn σ 0)) (kq : Q (some .null) h) : mCal TB0 ad (dd + 1) M_X8_forgeAt [.ref t, .int (zI n)] h 0 0 Q := by
  refine ⟨Nat.le_of_ble_eq_true rfl, ?_⟩
  show mEv TB0 ad M_X8_forgeAt (dd + 1) (0, 0) (mCal TB0 ad (dd + 0)) (fun v h' z => z.1 = 0 ∧ Q v h') 0 [some (.ref t), some (.int (zI n))] [] h (0, 0)
  have w1 := wS_n (clsT_w HT)
  refine e_iload_n dX8_forgeAt_0 rfl ?_
  refine z_if_lt 28 dX8_forgeAt_1 rfl ⟨by omega, by omega⟩ (fun c1 => ?_) (fun c1 => ?_)
  · skip
    refine e_null dX8_forgeAt_28 ?_
    refine e_aretN dX8_forgeAt_29 rfl ⟨rfl, ?_⟩
    exact kq
  · skip
    refine e_iload_n dX8_forgeAt_4 rfl ?_
    refine z_iconst (2) dX8_forgeAt_5 rfl ?_
    refine z_icmp_ge 28 dX8_forgeAt_6 rfl ⟨by omega, by omega⟩ ⟨by omega, by omega⟩ (fun c2 => ?_) (fun c2 => ?_)
    · skip
      refine e_null dX8_forgeAt_28 ?_
      refine e_aretN dX8_forgeAt_29 rfl ⟨rfl, ?_⟩
      exact kq
    · skip
      refine e_iload_n dX8_forgeAt_9 rfl ?_
      refine e_aload_n dX8_forgeAt_10 rfl ?_
      refine e_get (.ref (t + 5)) dX8_forgeAt_11 tf_8_33 (congrArg Prod.fst (td_s0 hk)) (congrArg va_rf (td_r0_4 hk)) ?_
      refine z_iconst (0) dX8_forgeAt_14 rfl ?_
      refine z_ild (cn σ 0) dX8_forgeAt_15 (td_s5 hk) (by decide) (by omega) (by omega) (clsT_cn HT (by omega) (by omega)) ?_
      have y3 := wS_n (clsT_w HT)
      refine z_icmp_ge 28 dX8_forgeAt_16 rfl ⟨by omega, by omega⟩ ⟨by omega, by omega⟩ (fun c4 => ?_) (fun c4 => ?_)
      · skip
        refine e_null dX8_forgeAt_28 ?_
        refine e_aretN dX8_forgeAt_29 rfl ⟨rfl, ?_⟩
        exact kq
      · exfalso; omega
set_option maxHeartbeats 400000 in
theorem zp_X8_yearAt_in {ad : mA} {dd : Nat} {h : mH} {Q : mQ} {t : Nat} {σ : Sg} (hk : tdk h t) (HT : clsT h t σ)  (n : Int) (n_r : -2147483648 ≤ n ∧ n < 2147483648) (p1 : 0 ≤ n) (p2 : n < cn σ 1) (kq : Q (some (.ref (yAt t n))) h) : mCal TB0 ad (dd + 1) M_X8_yearAt [.ref t, .int (zI n)] h 0 0 Q := by
  refine ⟨Nat.le_of_ble_eq_true rfl, ?_⟩
  show mEv TB0 ad M_X8_yearAt (dd + 1) (0, 0) (mCal TB0 ad (dd + 0)) (fun v h' z => z.1 = 0 ∧ Q v h') 0 [some (.ref t), some (.int (zI n))] [] h (0, 0)
  have w1 := wS_n (clsT_w HT)
  refine e_iload_n dX8_yearAt_0 rfl ?_
  refine z_if_lt 28 dX8_yearAt_1 rfl ⟨by omega, by omega⟩ (fun c1 => ?_) (fun c1 => ?_)
  · exfalso; omega
  · skip
    refine e_iload_n dX8_yearAt_4 rfl ?_
    refine z_iconst (2) dX8_yearAt_5 rfl ?_
    refine z_icmp_ge 28 dX8_yearAt_6 rfl ⟨by omega, by omega⟩ ⟨by omega, by omega⟩ (fun c2 => ?_) (fun c2 => ?_)
    · exfalso; omega
    · skip
      refine e_iload_n dX8_yearAt_9 rfl ?_
      refine e_aload_n dX8_yearAt_10 rfl ?_
      refine e_get (.ref (t + 5)) dX8_yearAt_11 tf_8_33 (congrArg Prod.fst (td_s0 hk)) (congrArg va_rf (td_r0_4 hk)) ?_
      refine z_iconst (1) dX8_yearAt_14 rfl ?_
      refine z_ild (cn σ 1) dX8_yearAt_15 (td_s5 hk) (by decide) (by omega) (by omega) (clsT_cn HT (by omega) (by omega)) ?_
      have y3 := wS_n (clsT_w HT)
      refine z_icmp_ge 28 dX8_yearAt_16 rfl ⟨by omega, by omega⟩ ⟨by omega, by omega⟩ (fun c4 => ?_) (fun c4 => ?_)
      · exfalso; omega
      · skip
        refine e_aload_n dX8_yearAt_19 rfl ?_
        refine e_get (.ref (t + 3)) dX8_yearAt_20 tf_8_23 (congrArg Prod.fst (td_s0 hk)) (congrArg va_rf (td_r0_2 hk)) ?_
        refine e_iload_n dX8_yearAt_23 rfl ?_
        refine z_ald (.ref (yAt t n)) dX8_yearAt_24 (td_s3 hk) (by decide) (by decide) (by decide) (by omega) (by omega) (congrArg va_rf (yAt_r hk (by omega) (by omega))) ?_
        refine e_goto 29 dX8_yearAt_25 rfl ?_
        refine e_aret dX8_yearAt_29 rfl ⟨rfl, ?_⟩
        exact kq
set_option maxHeartbeats 400000 in
theorem zp_X8_yearAt_out {ad : mA} {dd : Nat} {h : mH} {Q : mQ} {t : Nat} {σ : Sg} (hk : tdk h t) (HT : clsT h t σ)  (n : Int) (n_r : -2147483648 ≤ n ∧ n < 2147483648) (p1 : ¬ (0 ≤ n ∧ n < cn σ 1)) (kq : Q (some .null) h) : mCal TB0 ad (dd + 1) M_X8_yearAt [.ref t, .int (zI n)] h 0 0 Q := by
  refine ⟨Nat.le_of_ble_eq_true rfl, ?_⟩
  show mEv TB0 ad M_X8_yearAt (dd + 1) (0, 0) (mCal TB0 ad (dd + 0)) (fun v h' z => z.1 = 0 ∧ Q v h') 0 [some (.ref t), some (.int (zI n))] [] h (0, 0)
  have w1 := wS_n (clsT_w HT)
  refine e_iload_n dX8_yearAt_0 rfl ?_
  refine z_if_lt 28 dX8_yearAt_1 rfl ⟨by omega, by omega⟩ (fun c1 => ?_) (fun c1 => ?_)
  · skip
    refine e_null dX8_yearAt_28 ?_
    refine e_aretN dX8_yearAt_29 rfl ⟨rfl, ?_⟩
    exact kq
  · skip
    refine e_iload_n dX8_yearAt_4 rfl ?_
    refine z_iconst (2) dX8_yearAt_5 rfl ?_
    refine z_icmp_ge 28 dX8_yearAt_6 rfl ⟨by omega, by omega⟩ ⟨by omega, by omega⟩ (fun c2 => ?_) (fun c2 => ?_)
    · skip
      refine e_null dX8_yearAt_28 ?_
      refine e_aretN dX8_yearAt_29 rfl ⟨rfl, ?_⟩
      exact kq
    · skip
      refine e_iload_n dX8_yearAt_9 rfl ?_
      refine e_aload_n dX8_yearAt_10 rfl ?_
      refine e_get (.ref (t + 5)) dX8_yearAt_11 tf_8_33 (congrArg Prod.fst (td_s0 hk)) (congrArg va_rf (td_r0_4 hk)) ?_
      refine z_iconst (1) dX8_yearAt_14 rfl ?_
      refine z_ild (cn σ 1) dX8_yearAt_15 (td_s5 hk) (by decide) (by omega) (by omega) (clsT_cn HT (by omega) (by omega)) ?_
      have y3 := wS_n (clsT_w HT)
      refine z_icmp_ge 28 dX8_yearAt_16 rfl ⟨by omega, by omega⟩ ⟨by omega, by omega⟩ (fun c4 => ?_) (fun c4 => ?_)
      · skip
        refine e_null dX8_yearAt_28 ?_
        refine e_aretN dX8_yearAt_29 rfl ⟨rfl, ?_⟩
        exact kq
      · exfalso; omega
set_option maxHeartbeats 400000 in
theorem zp_X8_cluesAt_in {ad : mA} {dd : Nat} {h : mH} {Q : mQ} {t : Nat} {σ : Sg} (hk : tdk h t) (HT : clsT h t σ)  (n : Int) (n_r : -2147483648 ≤ n ∧ n < 2147483648) (p1 : 0 ≤ n) (p2 : n < cn σ 2) (kq : Q (some (.ref (kAt t n))) h) : mCal TB0 ad (dd + 1) M_X8_cluesAt [.ref t, .int (zI n)] h 0 0 Q := by
  refine ⟨Nat.le_of_ble_eq_true rfl, ?_⟩
  show mEv TB0 ad M_X8_cluesAt (dd + 1) (0, 0) (mCal TB0 ad (dd + 0)) (fun v h' z => z.1 = 0 ∧ Q v h') 0 [some (.ref t), some (.int (zI n))] [] h (0, 0)
  have w1 := wS_n (clsT_w HT)
  refine e_iload_n dX8_cluesAt_0 rfl ?_
  refine z_if_lt 28 dX8_cluesAt_1 rfl ⟨by omega, by omega⟩ (fun c1 => ?_) (fun c1 => ?_)
  · exfalso; omega
  · skip
    refine e_iload_n dX8_cluesAt_4 rfl ?_
    refine z_iconst (2) dX8_cluesAt_5 rfl ?_
    refine z_icmp_ge 28 dX8_cluesAt_6 rfl ⟨by omega, by omega⟩ ⟨by omega, by omega⟩ (fun c2 => ?_) (fun c2 => ?_)
    · exfalso; omega
    · skip
      refine e_iload_n dX8_cluesAt_9 rfl ?_
      refine e_aload_n dX8_cluesAt_10 rfl ?_
      refine e_get (.ref (t + 5)) dX8_cluesAt_11 tf_8_33 (congrArg Prod.fst (td_s0 hk)) (congrArg va_rf (td_r0_4 hk)) ?_
      refine z_iconst (2) dX8_cluesAt_14 rfl ?_
      refine z_ild (cn σ 2) dX8_cluesAt_15 (td_s5 hk) (by decide) (by omega) (by omega) (clsT_cn HT (by omega) (by omega)) ?_
      have y3 := wS_n (clsT_w HT)
      refine z_icmp_ge 28 dX8_cluesAt_16 rfl ⟨by omega, by omega⟩ ⟨by omega, by omega⟩ (fun c4 => ?_) (fun c4 => ?_)
      · exfalso; omega
      · skip
        refine e_aload_n dX8_cluesAt_19 rfl ?_
        refine e_get (.ref (t + 4)) dX8_cluesAt_20 tf_8_29 (congrArg Prod.fst (td_s0 hk)) (congrArg va_rf (td_r0_3 hk)) ?_
        refine e_iload_n dX8_cluesAt_23 rfl ?_
        refine z_ald (.ref (kAt t n)) dX8_cluesAt_24 (td_s4 hk) (by decide) (by decide) (by decide) (by omega) (by omega) (congrArg va_rf (kAt_r hk (by omega) (by omega))) ?_
        refine e_goto 29 dX8_cluesAt_25 rfl ?_
        refine e_aret dX8_cluesAt_29 rfl ⟨rfl, ?_⟩
        exact kq
set_option maxHeartbeats 400000 in
theorem zp_X8_cluesAt_out {ad : mA} {dd : Nat} {h : mH} {Q : mQ} {t : Nat} {σ : Sg} (hk : tdk h t) (HT : clsT h t σ)  (n : Int) (n_r : -2147483648 ≤ n ∧ n < 2147483648) (p1 : ¬ (0 ≤ n ∧ n < cn σ 2)) (kq : Q (some .null) h) : mCal TB0 ad (dd + 1) M_X8_cluesAt [.ref t, .int (zI n)] h 0 0 Q := by
  refine ⟨Nat.le_of_ble_eq_true rfl, ?_⟩
  show mEv TB0 ad M_X8_cluesAt (dd + 1) (0, 0) (mCal TB0 ad (dd + 0)) (fun v h' z => z.1 = 0 ∧ Q v h') 0 [some (.ref t), some (.int (zI n))] [] h (0, 0)
  have w1 := wS_n (clsT_w HT)
  refine e_iload_n dX8_cluesAt_0 rfl ?_
  refine z_if_lt 28 dX8_cluesAt_1 rfl ⟨by omega, by omega⟩ (fun c1 => ?_) (fun c1 => ?_)
  · skip
    refine e_null dX8_cluesAt_28 ?_
    refine e_aretN dX8_cluesAt_29 rfl ⟨rfl, ?_⟩
    exact kq
  · skip
    refine e_iload_n dX8_cluesAt_4 rfl ?_
    refine z_iconst (2) dX8_cluesAt_5 rfl ?_
    refine z_icmp_ge 28 dX8_cluesAt_6 rfl ⟨by omega, by omega⟩ ⟨by omega, by omega⟩ (fun c2 => ?_) (fun c2 => ?_)
    · skip
      refine e_null dX8_cluesAt_28 ?_
      refine e_aretN dX8_cluesAt_29 rfl ⟨rfl, ?_⟩
      exact kq
    · skip
      refine e_iload_n dX8_cluesAt_9 rfl ?_
      refine e_aload_n dX8_cluesAt_10 rfl ?_
      refine e_get (.ref (t + 5)) dX8_cluesAt_11 tf_8_33 (congrArg Prod.fst (td_s0 hk)) (congrArg va_rf (td_r0_4 hk)) ?_
      refine z_iconst (2) dX8_cluesAt_14 rfl ?_
      refine z_ild (cn σ 2) dX8_cluesAt_15 (td_s5 hk) (by decide) (by omega) (by omega) (clsT_cn HT (by omega) (by omega)) ?_
      have y3 := wS_n (clsT_w HT)
      refine z_icmp_ge 28 dX8_cluesAt_16 rfl ⟨by omega, by omega⟩ ⟨by omega, by omega⟩ (fun c4 => ?_) (fun c4 => ?_)
      · skip
        refine e_null dX8_cluesAt_28 ?_
        refine e_aretN dX8_cluesAt_29 rfl ⟨rfl, ?_⟩
        exact kq
      · exfalso; omega
set_option maxHeartbeats 400000 in
theorem zp_X12_ofG {ad : mA} {dd : Nat} {h : mH} {Q : mQ} {m : Nat} {σ : Sg} {k : Int} (hk : rk h m) (HR : refT h m 0 σ) (HK : rK h m k)  (at_ : Int) (at__r : -2147483648 ≤ at_ ∧ at_ < 2147483648) (p1 : 0 ≤ at_) (p2 : at_ < 81) (p3 : k < cn σ 0) (kq : Q (some (.int (zI (sG σ k at_)))) h) : mCal TB0 ad (dd + 1) M_X12_of [.ref m, .int (zI at_)] h 0 0 Q := by
  refine ⟨Nat.le_of_ble_eq_true rfl, ?_⟩
  show mEv TB0 ad M_X12_of (dd + 1) (0, 0) (mCal TB0 ad (dd + 0)) (fun v h' z => z.1 = 0 ∧ Q v h') 0 [some (.ref m), some (.int (zI at_))] [] h (0, 0)
  have w1 := HK.2
  refine e_aload_n dX12_of_0 rfl ?_
  refine e_get (.ref (m + 6)) dX12_of_1 tf_12_26 (rk_s hk) (congrArg va_rf (rk_r6 hk)) ?_
  refine z_bipush (81) dX12_of_4 rfl ?_
  refine e_aload_n dX12_of_6 rfl ?_
  refine z_get k dX12_of_7 tf_12_264 (rk_s hk) (Or.inl rfl) HK.1 ?_
  have y1 := HK.2
  refine z_imul dX12_of_10 ?_
  refine e_iload_n dX12_of_11 rfl ?_
  refine z_iadd dX12_of_12 ?_
  refine z_ild (sG σ k at_) dX12_of_13 (rk_a6 hk) (by decide) (by omega) (by omega) (refT_G HR (by omega) p3 (by omega) (by omega)) ?_
  refine z_iret dX12_of_14 rfl ⟨rfl, ?_⟩
  refine z_q kq ?_
  rfl
theorem hand_fin {h h1 : mH} {m : Nat} {k i : Int} {σ : Sg} {Q : mQ} {S : Nat → Nat → Prop} (kq : ∀ h1, frm S h h1 → rB h1 m (sG σ k) → rM h1 m (sG σ k) → rC h1 m (sG σ k) → rK h1 m k → Q (some (.int (zI (bZ True)))) h1) (f : frm S h h1) (p1 : 0 ≤ k) (p2 : k < cn σ 0) (HR : refT h1 m 0 σ) (HK : rK h1 m k) (I3 : rI h1 m 24 = sG σ k 0 ∧ rI h1 m 25 = sG σ k 1 ∧ rI h1 m 26 = sG σ k 2) (e : i = 12) (I5 : ∀ j : Int, 0 ≤ j → j < i → rI h1 (m + 11) j = sG σ k (3 + (30 * (j / 6) + j % 6)) ∧ rI h1 (m + 12) j = sG σ k (9 + (30 * (j / 6) + j % 6)) ∧ rI h1 (m + 13) j = sG σ k (15 + (30 * (j / 6) + j % 6)) ∧ rI h1 (m + 14) j = sG σ k (21 + (30 * (j / 6) + j % 6)) ∧ rI h1 (m + 15) j = sG σ k (27 + (30 * (j / 6) + j % 6))) : Q (some (.int (zI 1))) h1 := by
  have w := (refT_w HR).2.2.1 k p1 p2
  have wn := w.1.1
  have wu := w.1.2.1
  subst e
  have hd : ∀ j : Int, 0 ≤ j → j < 6 → rI h1 (m + 11) j = dl (sG σ k) j ∧ rI h1 (m + 12) j = ds (sG σ k) j ∧ rI h1 (m + 13) j = de (sG σ k) j ∧ rI h1 (m + 14) j = dh (sG σ k) j ∧ rI h1 (m + 15) j = dm (sG σ k) j := fun j a b => by
    have := I5 j a (by omega)
    rw [show 30 * (j / 6) + j % 6 = j by omega] at this
    exact this
  have hu : ∀ j : Int, 0 ≤ j → j < 6 → rI h1 (m + 11) (6 + j) = ul (sG σ k) j ∧ rI h1 (m + 12) (6 + j) = us (sG σ k) j ∧ rI h1 (m + 13) (6 + j) = ue (sG σ k) j ∧ rI h1 (m + 14) (6 + j) = uh (sG σ k) j ∧ rI h1 (m + 15) (6 + j) = um (sG σ k) j := fun j a b => by
    have := I5 (6 + j) (by omega) (by omega)
    rw [show 3 + (30 * ((6 + j) / 6) + (6 + j) % 6) = 33 + j by omega, show 9 + (30 * ((6 + j) / 6) + (6 + j) % 6) = 39 + j by omega, show 15 + (30 * ((6 + j) / 6) + (6 + j) % 6) = 45 + j by omega, show 21 + (30 * ((6 + j) / 6) + (6 + j) % 6) = 51 + j by omega, show 27 + (30 * ((6 + j) / 6) + (6 + j) % 6) = 57 + j by omega] at this
    exact this
  refine z_q1 (p := True) (kq h1 f ⟨w.1, ⟨I3.1, I3.2.1⟩, ⟨fun j a b => (hd j a (by omega)).1, fun j a b => (hu j a (by omega)).1⟩, ⟨fun j a b => (hd j a (by omega)).2.1, fun j a b => (hu j a (by omega)).2.1⟩, ⟨fun j a b => (hd j a (by omega)).2.2.1, fun j a b => (hu j a (by omega)).2.2.1⟩, fun j a b => (hd j a (by omega)).2.2.2.1, fun j a b => (hu j a (by omega)).2.2.2.1⟩ ⟨w.2.1, fun j a b => ⟨(hd j a b).2.2.2.2, (hu j a b).2.2.2.2⟩⟩ ⟨w.2.2, I3.2.2, by rw [HK.1]; exact HK.2, fun j a b => ?_⟩ HK) trivial
  have wc := w.2.2.1
  rw [HK.1]
  exact ⟨refT_G HR p1 p2 (by omega) (by omega), refT_G HR p1 p2 (by omega) (by omega), refT_G HR p1 p2 (by omega) (by omega)⟩
set_option maxHeartbeats 400000 in
theorem zp_X12_hand_in {ad : mA} {dd : Nat} {h : mH} {Q : mQ} {m : Nat} {σ : Sg} (hk : rk h m) (HR : refT h m 0 σ)  (k : Int) (k_r : -2147483648 ≤ k ∧ k < 2147483648) (p1 : 0 ≤ k) (p2 : k < cn σ 0) (kq : ∀ h1, frm (fun a i => (a = m ∧ 23 ≤ i ∧ i ≤ 26) ∨ (m + 11 ≤ a ∧ a < m + 16)) h h1 → (rB h1 m (sG σ k)) → (rM h1 m (sG σ k)) → (rC h1 m (sG σ k)) → (rK h1 m k) → Q (some (.int (zI (bZ True)))) h1) : mCal TB0 ad (dd + 3) M_X12_hand [.ref m, .int (zI k)] h 0 0 Q := by
  refine ⟨Nat.le_of_ble_eq_true rfl, ?_⟩
  show mEv TB0 ad M_X12_hand (dd + 3) (0, 0) (mCal TB0 ad (dd + 2)) (fun v h' z => z.1 = 0 ∧ Q v h') 0 [some (.ref m), some (.int (zI k)), none, none] [] h (0, 0)
  have FR0 : frm (fun a i => (a = m ∧ 23 ≤ i ∧ i ≤ 26) ∨ (m + 11 ≤ a ∧ a < m + 16)) h h := frm_0 h
  have w1 := wS_n (refT_w HR)
  have w2 := refT_cn HR (i := 0) (by omega) (by omega)
  refine e_aload_n dX12_hand_0 rfl ?_
  refine z_iconst (0) dX12_hand_1 rfl ?_
  refine e_iload_n dX12_hand_2 rfl ?_
  refine e_callV [.int _, .int _] dX12_hand_3 tm_12_254 rfl (Nat.le_of_ble_eq_true rfl) (rk_s hk) (Nat.le_of_ble_eq_true rfl) (Nat.le_refl _) (Nat.le_refl _) rfl (zp_X12_is hk 0 ⟨by omega, by omega⟩ k ⟨by omega, by omega⟩ (by omega) (by omega) (by omega) ?_)
  refine z_ifb_ne 11 dX12_hand_6 rfl (fun c1 => ?_) (fun c1 => ?_)
  · skip
    refine e_aload_n dX12_hand_11 rfl ?_
    refine e_iload_n dX12_hand_12 rfl ?_
    refine z_put dX12_hand_13 tf_12_264 (rk_s hk) rfl (Or.inl rfl) (fun h2 e3 => ?_)
    have f4 := frm_1 e3
    have k5 := rk_q (frm_s f4) hk
    have H6 := refT_c f4 (fun a k q1 q2 => by omega) HR
    have FR7 := frm_t FR0 (frm_m (S' := (fun a i => (a = m ∧ 23 ≤ i ∧ i ≤ 26) ∨ (m + 11 ≤ a ∧ a < m + 16))) f4 (fun a k q => by omega))
    have K0 : rK h2 m k := ⟨rI_eq e3 ⟨by omega, by omega⟩, by omega, by omega⟩
    skip
    refine e_aload_n dX12_hand_16 rfl ?_
    refine e_aload_n dX12_hand_17 rfl ?_
    refine z_iconst (0) dX12_hand_18 rfl ?_
    refine e_callV [.int _] dX12_hand_19 tm_12_267 rfl (Nat.le_of_ble_eq_true rfl) (rk_s k5) (Nat.le_of_ble_eq_true rfl) (Nat.le_refl _) (Nat.le_refl _) rfl (zp_X12_ofG k5 H6 K0 0 ⟨by omega, by omega⟩ (by omega) (by omega) (by omega) ?_)
    have y8 := rI_r (refT_G H6 (show 0 ≤ k by omega) (by omega) (show 0 ≤ 0 by omega) (by omega))
    refine z_put dX12_hand_22 tf_12_271 (rk_s k5) rfl (Or.inl rfl) (fun h9 e10 => ?_)
    have f11 := frm_1 e10
    have k12 := rk_q (frm_s f11) k5
    have H13 := refT_c f11 (fun a k q1 q2 => by omega) H6
    have H14 := rK_c f11 (fun a k q1 q2 => by omega) K0
    have FR15 := frm_t FR7 (frm_m (S' := (fun a i => (a = m ∧ 23 ≤ i ∧ i ≤ 26) ∨ (m + 11 ≤ a ∧ a < m + 16))) f11 (fun a k q => by omega))
    refine e_aload_n dX12_hand_25 rfl ?_
    refine e_aload_n dX12_hand_26 rfl ?_
    refine z_iconst (1) dX12_hand_27 rfl ?_
    refine e_callV [.int _] dX12_hand_28 tm_12_267 rfl (Nat.le_of_ble_eq_true rfl) (rk_s k12) (Nat.le_of_ble_eq_true rfl) (Nat.le_refl _) (Nat.le_refl _) rfl (zp_X12_ofG k12 H13 H14 1 ⟨by omega, by omega⟩ (by omega) (by omega) (by omega) ?_)
    have y16 := rI_r (refT_G H13 (show 0 ≤ k by omega) (by omega) (show 0 ≤ 1 by omega) (by omega))
    refine z_put dX12_hand_31 tf_12_274 (rk_s k12) rfl (Or.inl rfl) (fun h17 e18 => ?_)
    have f19 := frm_1 e18
    have k20 := rk_q (frm_s f19) k12
    have H21 := refT_c f19 (fun a k q1 q2 => by omega) H13
    have H22 := rK_c f19 (fun a k q1 q2 => by omega) H14
    have FR23 := frm_t FR15 (frm_m (S' := (fun a i => (a = m ∧ 23 ≤ i ∧ i ≤ 26) ∨ (m + 11 ≤ a ∧ a < m + 16))) f19 (fun a k q => by omega))
    refine e_aload_n dX12_hand_34 rfl ?_
    refine e_aload_n dX12_hand_35 rfl ?_
    refine z_iconst (2) dX12_hand_36 rfl ?_
    refine e_callV [.int _] dX12_hand_37 tm_12_267 rfl (Nat.le_of_ble_eq_true rfl) (rk_s k20) (Nat.le_of_ble_eq_true rfl) (Nat.le_refl _) (Nat.le_refl _) rfl (zp_X12_ofG k20 H21 H22 2 ⟨by omega, by omega⟩ (by omega) (by omega) (by omega) ?_)
    have y24 := rI_r (refT_G H21 (show 0 ≤ k by omega) (by omega) (show 0 ≤ 2 by omega) (by omega))
    refine z_put dX12_hand_40 tf_12_277 (rk_s k20) rfl (Or.inl rfl) (fun h25 e26 => ?_)
    have f27 := frm_1 e26
    have k28 := rk_q (frm_s f27) k20
    have H29 := refT_c f27 (fun a k q1 q2 => by omega) H21
    have H30 := rK_c f27 (fun a k q1 q2 => by omega) H22
    have FR31 := frm_t FR23 (frm_m (S' := (fun a i => (a = m ∧ 23 ≤ i ∧ i ≤ 26) ∨ (m + 11 ≤ a ∧ a < m + 16))) f27 (fun a k q => by omega))
    refine z_iconst (0) dX12_hand_43 rfl ?_
    refine e_istore_n (L' := [_, _, _, _]) dX12_hand_44 (Nat.le_of_ble_eq_true rfl) rfl ?_
    have lp32 : ∀ (n32 : Nat) (i : Int) (h32 : mH), (12 - i).toNat = n32 → (rk h32 m) → (refT h32 m 0 σ) → (rK h32 m k) → (frm (fun a i => (a = m ∧ 23 ≤ i ∧ i ≤ 26) ∨ (m + 11 ≤ a ∧ a < m + 16)) h h32) → (0 ≤ i) → (i ≤ 12) → (rI h32 m 24 = sG σ k 0 ∧ rI h32 m 25 = sG σ k 1 ∧ rI h32 m 26 = sG σ k 2) → (∀ j : Int, 0 ≤ j → j < i → rI h32 (m + 11) j = sG σ k (3 + (30 * (j / 6) + j % 6)) ∧ rI h32 (m + 12) j = sG σ k (9 + (30 * (j / 6) + j % 6)) ∧ rI h32 (m + 13) j = sG σ k (15 + (30 * (j / 6) + j % 6)) ∧ rI h32 (m + 14) j = sG σ k (21 + (30 * (j / 6) + j % 6)) ∧ rI h32 (m + 15) j = sG σ k (27 + (30 * (j / 6) + j % 6))) → mEv TB0 ad M_X12_hand (dd + 3) (0, 0) (mCal TB0 ad (dd + 2)) (fun v h' z => z.1 = 0 ∧ Q v h') 45 [some (.ref m), some (.int (zI k)), some (.int (zI i)), none] [] h32 (0, 0) := by
      intro n32
      induction n32 using Nat.strongRecOn with
      | ind n32 ih32 =>
      intro i h32 hn32 k33 H34 H35 FR36 I1 I2 I3 I5
      refine e_iload_n dX12_hand_45 rfl ?_
      refine z_bipush (12) dX12_hand_46 rfl ?_
      refine z_icmp_ge 139 dX12_hand_48 rfl ⟨by omega, by omega⟩ ⟨by omega, by omega⟩ (fun c37 => ?_) (fun c37 => ?_)
      · skip
        refine z_iconst (1) dX12_hand_139 rfl ?_
        refine z_bret dX12_hand_140 rfl (Or.inr rfl) ⟨rfl, ?_⟩
        exact hand_fin kq FR36 p1 p2 H34 H35 I3 (show i = 12 by omega) I5
      · skip
        refine z_bipush (30) dX12_hand_51 rfl ?_
        refine e_iload_n dX12_hand_53 rfl ?_
        refine z_bipush (6) dX12_hand_54 rfl ?_
        refine z_idiv dX12_hand_56 (by omega) (by omega) (by omega) (by omega) ?_
        refine z_imul dX12_hand_57 ?_
        refine e_iload_n dX12_hand_58 rfl ?_
        refine z_bipush (6) dX12_hand_59 rfl ?_
        refine z_irem dX12_hand_61 (by omega) (by omega) (by omega) (by omega) ?_
        refine z_iadd dX12_hand_62 ?_
        refine e_istore_n (L' := [_, _, _, _]) dX12_hand_63 (Nat.le_of_ble_eq_true rfl) rfl ?_
        refine e_aload_n dX12_hand_64 rfl ?_
        refine e_get (.ref (m + 11)) dX12_hand_65 tf_12_41 (rk_s k33) (congrArg va_rf (rk_r11 k33)) ?_
        refine e_iload_n dX12_hand_68 rfl ?_
        refine e_aload_n dX12_hand_69 rfl ?_
        refine z_iconst (3) dX12_hand_70 rfl ?_
        refine e_iload_n dX12_hand_71 rfl ?_
        refine z_iadd dX12_hand_72 ?_
        refine e_callV [.int _] dX12_hand_73 tm_12_267 rfl (Nat.le_of_ble_eq_true rfl) (rk_s k33) (Nat.le_of_ble_eq_true rfl) (Nat.le_refl _) (Nat.le_refl _) rfl (zp_X12_ofG k33 H34 H35 (3 + ((30 * (i / 6)) + (i % 6))) ⟨by omega, by omega⟩ (by omega) (by omega) (by omega) ?_)
        have y38 := rI_r (refT_G H34 (show 0 ≤ k by omega) (by omega) (show 0 ≤ (3 + ((30 * (i / 6)) + (i % 6))) by omega) (by omega))
        refine z_ist dX12_hand_76 (rk_a11 k33) (by decide) (by omega) (by omega) (fun h39 e40 => ?_)
        have f41 := frm_1 e40
        have k42 := rk_q (frm_s f41) k33
        have H43 := refT_c f41 (fun a k q1 q2 => by omega) H34
        have H44 := rK_c f41 (fun a k q1 q2 => by omega) H35
        have FR45 := frm_t FR36 (frm_m (S' := (fun a i => (a = m ∧ 23 ≤ i ∧ i ≤ 26) ∨ (m + 11 ≤ a ∧ a < m + 16))) f41 (fun a k q => by omega))
        refine e_aload_n dX12_hand_77 rfl ?_
        refine e_get (.ref (m + 12)) dX12_hand_78 tf_12_44 (rk_s k42) (congrArg va_rf (rk_r12 k42)) ?_
        refine e_iload_n dX12_hand_81 rfl ?_
        refine e_aload_n dX12_hand_82 rfl ?_
        refine z_bipush (9) dX12_hand_83 rfl ?_
        refine e_iload_n dX12_hand_85 rfl ?_
        refine z_iadd dX12_hand_86 ?_
        refine e_callV [.int _] dX12_hand_87 tm_12_267 rfl (Nat.le_of_ble_eq_true rfl) (rk_s k42) (Nat.le_of_ble_eq_true rfl) (Nat.le_refl _) (Nat.le_refl _) rfl (zp_X12_ofG k42 H43 H44 (9 + ((30 * (i / 6)) + (i % 6))) ⟨by omega, by omega⟩ (by omega) (by omega) (by omega) ?_)
        have y46 := rI_r (refT_G H43 (show 0 ≤ k by omega) (by omega) (show 0 ≤ (9 + ((30 * (i / 6)) + (i % 6))) by omega) (by omega))
        refine z_ist dX12_hand_90 (rk_a12 k42) (by decide) (by omega) (by omega) (fun h47 e48 => ?_)
        have f49 := frm_1 e48
        have k50 := rk_q (frm_s f49) k42
        have H51 := refT_c f49 (fun a k q1 q2 => by omega) H43
        have H52 := rK_c f49 (fun a k q1 q2 => by omega) H44
        have FR53 := frm_t FR45 (frm_m (S' := (fun a i => (a = m ∧ 23 ≤ i ∧ i ≤ 26) ∨ (m + 11 ≤ a ∧ a < m + 16))) f49 (fun a k q => by omega))
        refine e_aload_n dX12_hand_91 rfl ?_
        refine e_get (.ref (m + 13)) dX12_hand_92 tf_12_47 (rk_s k50) (congrArg va_rf (rk_r13 k50)) ?_
        refine e_iload_n dX12_hand_95 rfl ?_
        refine e_aload_n dX12_hand_96 rfl ?_
        refine z_bipush (15) dX12_hand_97 rfl ?_
        refine e_iload_n dX12_hand_99 rfl ?_
        refine z_iadd dX12_hand_100 ?_
        refine e_callV [.int _] dX12_hand_101 tm_12_267 rfl (Nat.le_of_ble_eq_true rfl) (rk_s k50) (Nat.le_of_ble_eq_true rfl) (Nat.le_refl _) (Nat.le_refl _) rfl (zp_X12_ofG k50 H51 H52 (15 + ((30 * (i / 6)) + (i % 6))) ⟨by omega, by omega⟩ (by omega) (by omega) (by omega) ?_)
        have y54 := rI_r (refT_G H51 (show 0 ≤ k by omega) (by omega) (show 0 ≤ (15 + ((30 * (i / 6)) + (i % 6))) by omega) (by omega))
        refine z_ist dX12_hand_104 (rk_a13 k50) (by decide) (by omega) (by omega) (fun h55 e56 => ?_)
        have f57 := frm_1 e56
        have k58 := rk_q (frm_s f57) k50
        have H59 := refT_c f57 (fun a k q1 q2 => by omega) H51
        have H60 := rK_c f57 (fun a k q1 q2 => by omega) H52
        have FR61 := frm_t FR53 (frm_m (S' := (fun a i => (a = m ∧ 23 ≤ i ∧ i ≤ 26) ∨ (m + 11 ≤ a ∧ a < m + 16))) f57 (fun a k q => by omega))
        refine e_aload_n dX12_hand_105 rfl ?_
        refine e_get (.ref (m + 14)) dX12_hand_106 tf_12_50 (rk_s k58) (congrArg va_rf (rk_r14 k58)) ?_
        refine e_iload_n dX12_hand_109 rfl ?_
        refine e_aload_n dX12_hand_110 rfl ?_
        refine z_bipush (21) dX12_hand_111 rfl ?_
        refine e_iload_n dX12_hand_113 rfl ?_
        refine z_iadd dX12_hand_114 ?_
        refine e_callV [.int _] dX12_hand_115 tm_12_267 rfl (Nat.le_of_ble_eq_true rfl) (rk_s k58) (Nat.le_of_ble_eq_true rfl) (Nat.le_refl _) (Nat.le_refl _) rfl (zp_X12_ofG k58 H59 H60 (21 + ((30 * (i / 6)) + (i % 6))) ⟨by omega, by omega⟩ (by omega) (by omega) (by omega) ?_)
        have y62 := rI_r (refT_G H59 (show 0 ≤ k by omega) (by omega) (show 0 ≤ (21 + ((30 * (i / 6)) + (i % 6))) by omega) (by omega))
        refine z_ist dX12_hand_118 (rk_a14 k58) (by decide) (by omega) (by omega) (fun h63 e64 => ?_)
        have f65 := frm_1 e64
        have k66 := rk_q (frm_s f65) k58
        have H67 := refT_c f65 (fun a k q1 q2 => by omega) H59
        have H68 := rK_c f65 (fun a k q1 q2 => by omega) H60
        have FR69 := frm_t FR61 (frm_m (S' := (fun a i => (a = m ∧ 23 ≤ i ∧ i ≤ 26) ∨ (m + 11 ≤ a ∧ a < m + 16))) f65 (fun a k q => by omega))
        refine e_aload_n dX12_hand_119 rfl ?_
        refine e_get (.ref (m + 15)) dX12_hand_120 tf_12_53 (rk_s k66) (congrArg va_rf (rk_r15 k66)) ?_
        refine e_iload_n dX12_hand_123 rfl ?_
        refine e_aload_n dX12_hand_124 rfl ?_
        refine z_bipush (27) dX12_hand_125 rfl ?_
        refine e_iload_n dX12_hand_127 rfl ?_
        refine z_iadd dX12_hand_128 ?_
        refine e_callV [.int _] dX12_hand_129 tm_12_267 rfl (Nat.le_of_ble_eq_true rfl) (rk_s k66) (Nat.le_of_ble_eq_true rfl) (Nat.le_refl _) (Nat.le_refl _) rfl (zp_X12_ofG k66 H67 H68 (27 + ((30 * (i / 6)) + (i % 6))) ⟨by omega, by omega⟩ (by omega) (by omega) (by omega) ?_)
        have y70 := rI_r (refT_G H67 (show 0 ≤ k by omega) (by omega) (show 0 ≤ (27 + ((30 * (i / 6)) + (i % 6))) by omega) (by omega))
        refine z_ist dX12_hand_132 (rk_a15 k66) (by decide) (by omega) (by omega) (fun h71 e72 => ?_)
        have f73 := frm_1 e72
        have k74 := rk_q (frm_s f73) k66
        have H75 := refT_c f73 (fun a k q1 q2 => by omega) H67
        have H76 := rK_c f73 (fun a k q1 q2 => by omega) H68
        have FR77 := frm_t FR69 (frm_m (S' := (fun a i => (a = m ∧ 23 ≤ i ∧ i ≤ 26) ∨ (m + 11 ≤ a ∧ a < m + 16))) f73 (fun a k q => by omega))
        refine z_iinc (L' := [_, _, _, _]) dX12_hand_133 rfl rfl ?_
        refine e_goto 45 dX12_hand_136 rfl ?_
        exact mEv_wk (by exact ⟨Or.inr rfl, Or.inr rfl, Or.inr rfl, Or.inl rfl, trivial⟩) (ih32 _ (by omega) (i + 1) h71 rfl k74 H75 H76 FR77 (by omega) (by omega) (⟨((frm_r f73 (by omega)).trans ((frm_r f65 (by omega)).trans ((frm_r f57 (by omega)).trans ((frm_r f49 (by omega)).trans (frm_r f41 (by omega)))))).trans I3.1, ((frm_r f73 (by omega)).trans ((frm_r f65 (by omega)).trans ((frm_r f57 (by omega)).trans ((frm_r f49 (by omega)).trans (frm_r f41 (by omega)))))).trans I3.2.1, ((frm_r f73 (by omega)).trans ((frm_r f65 (by omega)).trans ((frm_r f57 (by omega)).trans ((frm_r f49 (by omega)).trans (frm_r f41 (by omega)))))).trans I3.2.2⟩) (fun j a b => by
                    by_cases q : j = i
                    · subst q
                      exact ⟨(((frm_r f73 (by omega)).trans ((frm_r f65 (by omega)).trans ((frm_r f57 (by omega)).trans (frm_r f49 (by omega))))).trans (rI_eq e40 (by exact ⟨by omega, by omega⟩))), (((frm_r f73 (by omega)).trans ((frm_r f65 (by omega)).trans (frm_r f57 (by omega)))).trans (rI_eq e48 (by exact ⟨by omega, by omega⟩))), (((frm_r f73 (by omega)).trans (frm_r f65 (by omega))).trans (rI_eq e56 (by exact ⟨by omega, by omega⟩))), ((frm_r f73 (by omega)).trans (rI_eq e64 (by exact ⟨by omega, by omega⟩))), (rI_eq e72 (by exact ⟨by omega, by omega⟩))⟩
                    · obtain ⟨p1, p2, p3, p4, p5⟩ := I5 j a (by omega)
                      exact ⟨((frm_r f73 (by omega)).trans ((frm_r f65 (by omega)).trans ((frm_r f57 (by omega)).trans ((frm_r f49 (by omega)).trans (frm_r f41 (by omega)))))).trans p1, ((frm_r f73 (by omega)).trans ((frm_r f65 (by omega)).trans ((frm_r f57 (by omega)).trans ((frm_r f49 (by omega)).trans (frm_r f41 (by omega)))))).trans p2, ((frm_r f73 (by omega)).trans ((frm_r f65 (by omega)).trans ((frm_r f57 (by omega)).trans ((frm_r f49 (by omega)).trans (frm_r f41 (by omega)))))).trans p3, ((frm_r f73 (by omega)).trans ((frm_r f65 (by omega)).trans ((frm_r f57 (by omega)).trans ((frm_r f49 (by omega)).trans (frm_r f41 (by omega)))))).trans p4, ((frm_r f73 (by omega)).trans ((frm_r f65 (by omega)).trans ((frm_r f57 (by omega)).trans ((frm_r f49 (by omega)).trans (frm_r f41 (by omega)))))).trans p5⟩))
    exact lp32 _ 0 h25 rfl k28 H29 H30 FR31 (by omega) (by omega) (⟨(((frm_r f27 (by omega)).trans (frm_r f19 (by omega))).trans (rI_eq e10 ⟨by omega, by omega⟩)), ((frm_r f27 (by omega)).trans (rI_eq e18 ⟨by omega, by omega⟩)), (rI_eq e26 ⟨by omega, by omega⟩)⟩) (fun j a b => by omega)
  · exfalso; omega
set_option maxHeartbeats 400000 in
theorem zp_X12_hand_out {ad : mA} {dd : Nat} {h : mH} {Q : mQ} {m : Nat} {σ : Sg} (hk : rk h m) (HR : refT h m 0 σ)  (k : Int) (k_r : -2147483648 ≤ k ∧ k < 2147483648) (p1 : ¬ (0 ≤ k ∧ k < cn σ 0)) (kq : Q (some (.int (zI (bZ False)))) h) : mCal TB0 ad (dd + 3) M_X12_hand [.ref m, .int (zI k)] h 0 0 Q := by
  refine ⟨Nat.le_of_ble_eq_true rfl, ?_⟩
  show mEv TB0 ad M_X12_hand (dd + 3) (0, 0) (mCal TB0 ad (dd + 2)) (fun v h' z => z.1 = 0 ∧ Q v h') 0 [some (.ref m), some (.int (zI k)), none, none] [] h (0, 0)
  have w1 := wS_n (refT_w HR)
  have w2 := refT_cn HR (i := 0) (by omega) (by omega)
  refine e_aload_n dX12_hand_0 rfl ?_
  refine z_iconst (0) dX12_hand_1 rfl ?_
  refine e_iload_n dX12_hand_2 rfl ?_
  refine e_callV [.int _, .int _] dX12_hand_3 tm_12_254 rfl (Nat.le_of_ble_eq_true rfl) (rk_s hk) (Nat.le_of_ble_eq_true rfl) (Nat.le_refl _) (Nat.le_refl _) rfl (zp_X12_is hk 0 ⟨by omega, by omega⟩ k ⟨by omega, by omega⟩ (by omega) (by omega) (by omega) ?_)
  refine z_ifb_ne 11 dX12_hand_6 rfl (fun c1 => ?_) (fun c1 => ?_)
  · exfalso; omega
  · skip
    refine z_iconst (0) dX12_hand_9 rfl ?_
    refine z_bret dX12_hand_10 rfl (Or.inl rfl) ⟨rfl, ?_⟩
    refine z_q0 kq ?_
    exact id
