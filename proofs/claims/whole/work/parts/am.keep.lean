/-! TEXT: what is kept -/
theorem dX8_target_0 : decode cX8_target 0 = .ok (.iload_n 1, 1) := by decide +kernel
theorem dX8_target_1 : decode cX8_target 1 = .ok (.ifCond .lt 8, 3) := by decide +kernel
theorem dX8_target_4 : decode cX8_target 4 = .ok (.iload_n 1, 1) := by decide +kernel
theorem dX8_target_5 : decode cX8_target 5 = .ok (.iconst 3, 1) := by decide +kernel
theorem dX8_target_6 : decode cX8_target 6 = .ok (.if_icmp .lt 6, 3) := by decide +kernel
theorem dX8_target_9 : decode cX8_target 9 = .ok (.bipush (-2), 2) := by decide +kernel
theorem dX8_target_11 : decode cX8_target 11 = .ok (.ireturn, 1) := by decide +kernel
theorem dX8_target_12 : decode cX8_target 12 = .ok (.iload_n 2, 1) := by decide +kernel
theorem dX8_target_13 : decode cX8_target 13 = .ok (.iconst (-1), 1) := by decide +kernel
theorem dX8_target_14 : decode cX8_target 14 = .ok (.if_icmp .ne 25, 3) := by decide +kernel
theorem dX8_target_17 : decode cX8_target 17 = .ok (.aload_n 0, 1) := by decide +kernel
theorem dX8_target_18 : decode cX8_target 18 = .ok (.getfield 33, 3) := by decide +kernel
theorem dX8_target_21 : decode cX8_target 21 = .ok (.iload_n 1, 1) := by decide +kernel
theorem dX8_target_22 : decode cX8_target 22 = .ok (.iaload, 1) := by decide +kernel
theorem dX8_target_23 : decode cX8_target 23 = .ok (.iconst 2, 1) := by decide +kernel
theorem dX8_target_24 : decode cX8_target 24 = .ok (.if_icmp .ge 12, 3) := by decide +kernel
theorem dX8_target_27 : decode cX8_target 27 = .ok (.aload_n 0, 1) := by decide +kernel
theorem dX8_target_28 : decode cX8_target 28 = .ok (.getfield 33, 3) := by decide +kernel
theorem dX8_target_31 : decode cX8_target 31 = .ok (.iload_n 1, 1) := by decide +kernel
theorem dX8_target_32 : decode cX8_target 32 = .ok (.iaload, 1) := by decide +kernel
theorem dX8_target_33 : decode cX8_target 33 = .ok (.goto 5, 3) := by decide +kernel
theorem dX8_target_36 : decode cX8_target 36 = .ok (.bipush (-2), 2) := by decide +kernel
theorem dX8_target_38 : decode cX8_target 38 = .ok (.ireturn, 1) := by decide +kernel
theorem dX8_target_39 : decode cX8_target 39 = .ok (.iload_n 2, 1) := by decide +kernel
theorem dX8_target_40 : decode cX8_target 40 = .ok (.ifCond .lt 17, 3) := by decide +kernel
theorem dX8_target_43 : decode cX8_target 43 = .ok (.iload_n 2, 1) := by decide +kernel
theorem dX8_target_44 : decode cX8_target 44 = .ok (.aload_n 0, 1) := by decide +kernel
theorem dX8_target_45 : decode cX8_target 45 = .ok (.getfield 33, 3) := by decide +kernel
theorem dX8_target_48 : decode cX8_target 48 = .ok (.iload_n 1, 1) := by decide +kernel
theorem dX8_target_49 : decode cX8_target 49 = .ok (.iaload, 1) := by decide +kernel
theorem dX8_target_50 : decode cX8_target 50 = .ok (.if_icmp .ge 7, 3) := by decide +kernel
theorem dX8_target_53 : decode cX8_target 53 = .ok (.iload_n 2, 1) := by decide +kernel
theorem dX8_target_54 : decode cX8_target 54 = .ok (.goto 5, 3) := by decide +kernel
theorem dX8_target_57 : decode cX8_target 57 = .ok (.bipush (-2), 2) := by decide +kernel
theorem dX8_target_59 : decode cX8_target 59 = .ok (.ireturn, 1) := by decide +kernel
theorem dX8_keep_0 : decode cX8_keep 0 = .ok (.iload_n 1, 1) := by decide +kernel
theorem dX8_keep_1 : decode cX8_keep 1 = .ok (.ifCond .lt 17, 3) := by decide +kernel
theorem dX8_keep_4 : decode cX8_keep 4 = .ok (.iload_n 1, 1) := by decide +kernel
theorem dX8_keep_5 : decode cX8_keep 5 = .ok (.iconst 3, 1) := by decide +kernel
theorem dX8_keep_6 : decode cX8_keep 6 = .ok (.if_icmp .ge 12, 3) := by decide +kernel
theorem dX8_keep_9 : decode cX8_keep 9 = .ok (.iload_n 2, 1) := by decide +kernel
theorem dX8_keep_10 : decode cX8_keep 10 = .ok (.ifCond .lt 8, 3) := by decide +kernel
theorem dX8_keep_13 : decode cX8_keep 13 = .ok (.iload_n 2, 1) := by decide +kernel
theorem dX8_keep_14 : decode cX8_keep 14 = .ok (.iconst 2, 1) := by decide +kernel
theorem dX8_keep_15 : decode cX8_keep 15 = .ok (.if_icmp .lt 4, 3) := by decide +kernel
theorem dX8_keep_18 : decode cX8_keep 18 = .ok (.return_, 1) := by decide +kernel
theorem dX8_keep_19 : decode cX8_keep 19 = .ok (.iload_n 1, 1) := by decide +kernel
theorem dX8_keep_20 : decode cX8_keep 20 = .ok (.ifCond .ne 19, 3) := by decide +kernel
theorem dX8_keep_23 : decode cX8_keep 23 = .ok (.aload_n 0, 1) := by decide +kernel
theorem dX8_keep_24 : decode cX8_keep 24 = .ok (.getfield 17, 3) := by decide +kernel
theorem dX8_keep_27 : decode cX8_keep 27 = .ok (.iload_n 2, 1) := by decide +kernel
theorem dX8_keep_28 : decode cX8_keep 28 = .ok (.aaload, 1) := by decide +kernel
theorem dX8_keep_29 : decode cX8_keep 29 = .ok (.aload_n 3, 1) := by decide +kernel
theorem dX8_keep_30 : decode cX8_keep 30 = .ok (.getfield 50, 3) := by decide +kernel
theorem dX8_keep_33 : decode cX8_keep 33 = .ok (.invokevirtual 56, 3) := by decide +kernel
theorem dX8_keep_36 : decode cX8_keep 36 = .ok (.goto 37, 3) := by decide +kernel
theorem dX8_keep_39 : decode cX8_keep 39 = .ok (.iload_n 1, 1) := by decide +kernel
theorem dX8_keep_40 : decode cX8_keep 40 = .ok (.iconst 1, 1) := by decide +kernel
theorem dX8_keep_41 : decode cX8_keep 41 = .ok (.if_icmp .ne 19, 3) := by decide +kernel
theorem dX8_keep_44 : decode cX8_keep 44 = .ok (.aload_n 0, 1) := by decide +kernel
theorem dX8_keep_45 : decode cX8_keep 45 = .ok (.getfield 23, 3) := by decide +kernel
theorem dX8_keep_48 : decode cX8_keep 48 = .ok (.iload_n 2, 1) := by decide +kernel
theorem dX8_keep_49 : decode cX8_keep 49 = .ok (.aaload, 1) := by decide +kernel
theorem dX8_keep_50 : decode cX8_keep 50 = .ok (.aload_n 3, 1) := by decide +kernel
theorem dX8_keep_51 : decode cX8_keep 51 = .ok (.getfield 60, 3) := by decide +kernel
theorem dX8_keep_54 : decode cX8_keep 54 = .ok (.invokevirtual 64, 3) := by decide +kernel
theorem dX8_keep_57 : decode cX8_keep 57 = .ok (.goto 16, 3) := by decide +kernel
theorem dX8_keep_60 : decode cX8_keep 60 = .ok (.aload_n 0, 1) := by decide +kernel
theorem dX8_keep_61 : decode cX8_keep 61 = .ok (.getfield 29, 3) := by decide +kernel
theorem dX8_keep_64 : decode cX8_keep 64 = .ok (.iload_n 2, 1) := by decide +kernel
theorem dX8_keep_65 : decode cX8_keep 65 = .ok (.aaload, 1) := by decide +kernel
theorem dX8_keep_66 : decode cX8_keep 66 = .ok (.aload_n 3, 1) := by decide +kernel
theorem dX8_keep_67 : decode cX8_keep 67 = .ok (.getfield 67, 3) := by decide +kernel
theorem dX8_keep_70 : decode cX8_keep 70 = .ok (.invokevirtual 70, 3) := by decide +kernel
theorem dX8_keep_73 : decode cX8_keep 73 = .ok (.aload_n 0, 1) := by decide +kernel
theorem dX8_keep_74 : decode cX8_keep 74 = .ok (.getfield 33, 3) := by decide +kernel
theorem dX8_keep_77 : decode cX8_keep 77 = .ok (.iload_n 1, 1) := by decide +kernel
theorem dX8_keep_78 : decode cX8_keep 78 = .ok (.aload_n 0, 1) := by decide +kernel
theorem dX8_keep_79 : decode cX8_keep 79 = .ok (.getfield 33, 3) := by decide +kernel
theorem dX8_keep_82 : decode cX8_keep 82 = .ok (.iload_n 1, 1) := by decide +kernel
theorem dX8_keep_83 : decode cX8_keep 83 = .ok (.iaload, 1) := by decide +kernel
theorem dX8_keep_84 : decode cX8_keep 84 = .ok (.iload_n 2, 1) := by decide +kernel
theorem dX8_keep_85 : decode cX8_keep 85 = .ok (.iconst 1, 1) := by decide +kernel
theorem dX8_keep_86 : decode cX8_keep 86 = .ok (.iadd, 1) := by decide +kernel
theorem dX8_keep_87 : decode cX8_keep 87 = .ok (.invokestatic 73, 3) := by decide +kernel
theorem dX8_keep_90 : decode cX8_keep 90 = .ok (.iastore, 1) := by decide +kernel
theorem dX8_keep_91 : decode cX8_keep 91 = .ok (.return_, 1) := by decide +kernel
theorem dX12_store_0 : decode cX12_store 0 = .ok (.iconst 0, 1) := by decide +kernel
theorem dX12_store_1 : decode cX12_store 1 = .ok (.istore 4, 2) := by decide +kernel
theorem dX12_store_3 : decode cX12_store 3 = .ok (.iload 4, 2) := by decide +kernel
theorem dX12_store_5 : decode cX12_store 5 = .ok (.iload_n 2, 1) := by decide +kernel
theorem dX12_store_6 : decode cX12_store 6 = .ok (.if_icmp .ge 24, 3) := by decide +kernel
theorem dX12_store_9 : decode cX12_store 9 = .ok (.aload_n 1, 1) := by decide +kernel
theorem dX12_store_10 : decode cX12_store 10 = .ok (.iload_n 2, 1) := by decide +kernel
theorem dX12_store_11 : decode cX12_store 11 = .ok (.iload_n 3, 1) := by decide +kernel
theorem dX12_store_12 : decode cX12_store 12 = .ok (.imul, 1) := by decide +kernel
theorem dX12_store_13 : decode cX12_store 13 = .ok (.iload 4, 2) := by decide +kernel
theorem dX12_store_15 : decode cX12_store 15 = .ok (.iadd, 1) := by decide +kernel
theorem dX12_store_16 : decode cX12_store 16 = .ok (.aload_n 0, 1) := by decide +kernel
theorem dX12_store_17 : decode cX12_store 17 = .ok (.getfield 35, 3) := by decide +kernel
theorem dX12_store_20 : decode cX12_store 20 = .ok (.iload 4, 2) := by decide +kernel
theorem dX12_store_22 : decode cX12_store 22 = .ok (.iaload, 1) := by decide +kernel
theorem dX12_store_23 : decode cX12_store 23 = .ok (.iastore, 1) := by decide +kernel
theorem dX12_store_24 : decode cX12_store 24 = .ok (.iinc 4 1, 3) := by decide +kernel
theorem dX12_store_27 : decode cX12_store 27 = .ok (.goto (-24), 3) := by decide +kernel
theorem dX12_store_30 : decode cX12_store 30 = .ok (.return_, 1) := by decide +kernel
theorem tf_8_50 : tFld TB0 8 50 = some (6, 0) := rfl
theorem tf_8_60 : tFld TB0 8 60 = some (6, 1) := rfl
theorem tf_8_67 : tFld TB0 8 67 = some (6, 2) := rfl
set_option maxRecDepth 20000 in
theorem tm_8_73 : tMet TB0 8 73 = some (10, M_none) := rfl
/-! TEXT: what is kept -/
def sgA (σ : Sg) (f q : Int) : Sg := setC (setC (setC σ 3 0) 4 f) 5 q
theorem sgA_cn {σ : Sg} {f q s : Int} (n : s ≠ 3 ∧ s ≠ 4 ∧ s ≠ 5) : cn (sgA σ f q) s = cn σ s := by
  unfold sgA; rw [cn_setC, if_neg n.2.2, cn_setC, if_neg n.2.1, cn_setC, if_neg n.1]
theorem sgA_w {σ : Sg} {f q : Int} (w : wfS σ) (hf : 0 ≤ f ∧ f ≤ 4) (hq : -1 ≤ q ∧ q ≤ 600) : wfS (sgA σ f q) := by
  have n := wS_n w
  refine ⟨⟨n.1, n.2.1, n.2.2.1, ⟨Int.le_refl 0, by show (0 : Int) ≤ 600; omega⟩, hf, hq⟩, w.2⟩
def upS (f : Int → Int → Int) (i : Int) (C : Int → Int) : Int → Int → Int := fun k => if k = i then C else f k
def keS0 (σ : Sg) (i : Int) (C : Int → Int) : Sg := (setG σ.1 0 (max (cn σ 0) (i + 1)), upS σ.2.1 i C, σ.2.2)
def keS1 (σ : Sg) (i : Int) (C : Int → Int) : Sg := (setG σ.1 1 (max (cn σ 1) (i + 1)), σ.2.1, upS σ.2.2.1 i C, σ.2.2.2)
def keS2 (σ : Sg) (i : Int) (C : Int → Int) : Sg := (setG σ.1 2 (max (cn σ 2) (i + 1)), σ.2.1, σ.2.2.1, upS σ.2.2.2.1 i C, σ.2.2.2.2)
def keS (σ : Sg) (s i : Int) (C : Int → Int) : Sg := if s = 0 then keS0 σ i C else if s = 1 then keS1 σ i C else keS2 σ i C
theorem keS_0 {σ : Sg} {i : Int} {C : Int → Int} : keS σ 0 i C = keS0 σ i C := if_pos rfl
theorem keS_1 {σ : Sg} {i : Int} {C : Int → Int} : keS σ 1 i C = keS1 σ i C := by unfold keS; rw [if_neg (by omega), if_pos rfl]
theorem keS_2 {σ : Sg} {i : Int} {C : Int → Int} : keS σ 2 i C = keS2 σ i C := by unfold keS; rw [if_neg (by omega), if_neg (by omega)]
theorem clsT_a {h h1 : mH} {t : Nat} {σ : Sg} {f q : Int} (H : clsT h t σ) (e : ∀ a, t ≤ a → a < t + 54 → ∀ z : Int, (a = t → z.toNat ≠ 5 ∧ z.toNat ≠ 6 ∧ z.toNat ≠ 7) → rI h1 a z = rI h a z) (e3 : rI h1 t 5 = 0) (e4 : rI h1 t 6 = f) (e5 : rI h1 t 7 = q) (hf : 0 ≤ f ∧ f ≤ 4) (hq : -1 ≤ q ∧ q ≤ 600) : clsT h1 t (sgA σ f q) := by
  obtain ⟨w, a, b, _, d, y, k⟩ := H
  refine ⟨sgA_w w hf hq, fun i p q => (e _ (by omega) (by omega) _ (by omega)).trans (a i p q), fun i p q => ?_, ⟨e3, e4, e5⟩, fun i p q => isF_q (fun a x y z => by have := fAt_b t i; exact e a (by omega) (by omega) z (by omega)) (d i p q), fun i p q => isY_q (fun a x y z => by have := yAt_b t i; exact e a (by omega) (by omega) z (by omega)) (y i p q), fun i p q => isK_q (fun a x y z => by have := kAt_b t i; exact e a (by omega) (by omega) z (by omega)) (k i p q)⟩
  rw [sgA_cn (by omega)]
  exact (e _ (by omega) (by omega) _ (by omega)).trans (b i p q)
theorem refT_a {h h1 : mH} {m : Nat} {σ : Sg} {f q : Int} (H : refT h m 0 σ) (e : ∀ a, m + 1 ≤ a → a < m + 9 → ∀ z : Int, (m + 2 ≤ a → a ≤ m + 4 → z.toNat ≠ 0) → rI h1 a z = rI h a z) (e3 : rI h1 (m + 2) 0 = 0) (e4 : rI h1 (m + 3) 0 = f) (e5 : rI h1 (m + 4) 0 = q) (hf : 0 ≤ f ∧ f ≤ 4) (hq : -1 ≤ q ∧ q ≤ 600) : refT h1 m 0 (sgA σ f q) := by
  obtain ⟨w, a, b, _, d, y, k⟩ := H
  refine ⟨sgA_w w hf hq, fun i p q => (e _ (by omega) (by omega) _ (by omega)).trans (a i p q), fun i p q => ?_, ⟨e3, e4, e5⟩, fun i p q j r t => (e _ (by omega) (by omega) _ (by omega)).trans (d i p q j r t), fun i p q j r t => (e _ (by omega) (by omega) _ (by omega)).trans (y i p q j r t), fun i p q j r t => (e _ (by omega) (by omega) _ (by omega)).trans (k i p q j r t)⟩
  rw [sgA_cn (by omega)]
  exact (e _ (by omega) (by omega) _ (by omega)).trans (b i p q)
theorem is_F {h h1 : mH} {o f : Nat} {C : Int → Int} (w : wfF C) (H : rwF h o C) (e : eqF h o h1 f) : isF h1 f C := by
  obtain ⟨⟨e1, e2⟩, ⟨e3, e4⟩, e5, e6⟩ := e
  obtain ⟨⟨z1, z2, z3⟩, b1, b2, b3, b4⟩ := H
  have n1 := w.1.1
  have n2 := w.1.2.1
  have n3 := w.2.2.1
  refine ⟨w, ⟨e1.trans z1, e3.trans z2, e5.trans z3⟩, fun i x y => ?_, fun i x y => ?_, fun i x y => ?_, fun i x y => ?_⟩
  · obtain ⟨p1, p2, p3, p4⟩ := b1 i x y
    obtain ⟨q1, q2, q3, q4, q5⟩ := e2 i x (by omega)
    exact ⟨q1.trans p1, q2.trans p2, q3.trans p3, q4.trans p4⟩
  · obtain ⟨p1, p2, p3, p4⟩ := b2 i x y
    obtain ⟨q1, q2, q3, q4, q5⟩ := e4 i x (by omega)
    exact ⟨q1.trans p1, q2.trans p2, q3.trans p3, q4.trans p4⟩
  · obtain ⟨p1, p2⟩ := b3 i x y
    exact ⟨(e2 i x y).2.2.2.2.trans p1, (e4 i x y).2.2.2.2.trans p2⟩
  · obtain ⟨p1, p2, p3⟩ := b4 i x y
    obtain ⟨q1, q2, q3⟩ := e6 i x (by omega)
    exact ⟨q1.trans p1, q2.trans p2, q3.trans p3⟩
theorem is_Y {h h1 : mH} {o f : Nat} {C : Int → Int} (w : wfY C) (H : rwY h o C) (e : cpY h1 f h o 40) : isY h1 f C := ⟨w, e.1.trans H.1, fun k x y => by
  have n := w.1
  obtain ⟨p1, p2, p3⟩ := H.2 k x y
  obtain ⟨q1, q2, q3⟩ := e.2 k x (by omega)
  exact ⟨q1.trans p1, q2.trans p2, q3.trans p3⟩⟩
theorem is_K {h h1 : mH} {o f : Nat} {C : Int → Int} (w : wfK C) (H : rwY h o C) (e : cpY h1 f h o 8) : isK h1 f C := ⟨w, e.1.trans H.1, fun k x y => by
  have n := w.1
  obtain ⟨p1, p2, p3⟩ := H.2 k x y
  obtain ⟨q1, q2, q3⟩ := e.2 k x (by omega)
  exact ⟨q1.trans p1, q2.trans p2, q3.trans p3⟩⟩
theorem cn_ke0 {σ : Sg} {i k : Int} {C : Int → Int} : cn (keS0 σ i C) k = if k = 0 then max (cn σ 0) (i + 1) else cn σ k := rfl
theorem g_ke0 {σ : Sg} {i k : Int} {C : Int → Int} : sG (keS0 σ i C) k = if k = i then C else sG σ k := rfl
theorem fAt_n {t : Nat} {i k : Int} (n : k ≠ i) (i0 : 0 ≤ i ∧ i < 2) (k0 : 0 ≤ k ∧ k < 2) : fAt t k + 16 ≤ fAt t i ∨ fAt t i + 16 ≤ fAt t k := by
  unfold fAt
  split
  · rw [if_neg (by omega)]; omega
  · rw [if_pos (by omega)]; omega
theorem ke0_w {σ : Sg} {i : Int} {C : Int → Int} (w : wfS σ) (c : wfF C) (i0 : 0 ≤ i ∧ i < 2) (il : i ≤ cn σ 0) : wfS (keS0 σ i C) := by
  have n := wS_n w
  have nn : ∀ k, k ≠ 0 → cn (keS0 σ i C) k = cn σ k := fun k z => by rw [cn_ke0, if_neg z]
  have ns : cn (keS0 σ i C) 0 = max (cn σ 0) (i + 1) := by rw [cn_ke0, if_pos rfl]
  have n1 := nn 1 (by omega)
  have n2 := nn 2 (by omega)
  have n3 := nn 3 (by omega)
  have n4 := nn 4 (by omega)
  have n5 := nn 5 (by omega)
  refine ⟨⟨by omega, by omega, by omega, by omega, by omega, by omega⟩, w.2.1, fun k a z => ?_, fun k a z => ?_, fun k a z => ?_⟩
  · rw [g_ke0]
    by_cases q : k = i
    · rw [if_pos q]; exact c
    · rw [if_neg q]; exact w.2.2.1 k a (by omega)
  · exact w.2.2.2.1 k a (by omega)
  · exact w.2.2.2.2 k a (by omega)
theorem clsT_k0 {h h1 : mH} {t : Nat} {σ : Sg} {i : Int} {C : Int → Int} (H : clsT h t σ) (f : frm (fun a k => (fAt t i ≤ a ∧ a < fAt t i + 16) ∨ (a = t + 5 ∧ k = 0)) h h1) (F : isF h1 (fAt t i) C) (e : rI h1 (t + 5) 0 = max (cn σ 0) (i + 1)) (c : wfF C) (i0 : 0 ≤ i ∧ i < 2) (il : i ≤ cn σ 0) : clsT h1 t (keS0 σ i C) := by
  obtain ⟨w, a, b, ⟨c1, c2, c3⟩, d, y, k⟩ := H
  have n := wS_n w
  have ab := fAt_b t i
  have nn : ∀ k, k ≠ 0 → cn (keS0 σ i C) k = cn σ k := fun k z => by rw [cn_ke0, if_neg z]
  have ns : cn (keS0 σ i C) 0 = max (cn σ 0) (i + 1) := by rw [cn_ke0, if_pos rfl]
  refine ⟨ke0_w w c i0 il, fun j p q => (frm_r f (by omega)).trans (a j p q), fun j p q => ?_, ⟨((frm_r f (by omega)).trans c1).trans (nn 3 (by omega)).symm, ((frm_r f (by omega)).trans c2).trans (nn 4 (by omega)).symm, ((frm_r f (by omega)).trans c3).trans (nn 5 (by omega)).symm⟩, fun j p q => ?_, fun j p q => ?_, fun j p q => ?_⟩
  · by_cases z : j = 0
    · rw [z, ns]; exact e
    · rw [nn j z]; exact (frm_r f (by omega)).trans (b j p q)
  · rw [ns] at q
    rw [g_ke0]
    by_cases z : j = i
    · rw [if_pos z, z]; exact F
    · rw [if_neg z]
      have an := fAt_n (t := t) z i0 ⟨p, by omega⟩
      have aj := fAt_b t j
      exact isF_c f (fun a k x y => by omega) (d j p (by omega))
  · rw [nn 1 (by omega)] at q
    have aj := yAt_b t j
    exact isY_c f (fun a k x y => by omega) (y j p q)
  · rw [nn 2 (by omega)] at q
    have aj := kAt_b t j
    exact isK_c f (fun a k x y => by omega) (k j p q)
theorem refT_k0 {h h1 : mH} {m : Nat} {σ : Sg} {i : Int} {C : Int → Int} (H : refT h m 0 σ) (f : frm (fun a k => (a = m + 6 ∧ 81 * i ≤ (k : Int) ∧ (k : Int) < 81 * i + 81) ∨ (a = m + 5 ∧ k = 0)) h h1) (F : ∀ j : Int, 0 ≤ j → j < 81 → rI h1 (m + 6) (81 * i + j) = C j) (e : rI h1 (m + 5) 0 = max (cn σ 0) (i + 1)) (c : wfF C) (i0 : 0 ≤ i ∧ i < 2) (il : i ≤ cn σ 0) : refT h1 m 0 (keS0 σ i C) := by
  obtain ⟨w, a, b, ⟨c1, c2, c3⟩, d, y, k⟩ := H
  have n := wS_n w
  have nn : ∀ k, k ≠ 0 → cn (keS0 σ i C) k = cn σ k := fun k z => by rw [cn_ke0, if_neg z]
  have ns : cn (keS0 σ i C) 0 = max (cn σ 0) (i + 1) := by rw [cn_ke0, if_pos rfl]
  refine ⟨ke0_w w c i0 il, fun j p q => (frm_r f (by omega)).trans (a j p q), fun j p q => ?_, ⟨((frm_r f (by omega)).trans c1).trans (nn 3 (by omega)).symm, ((frm_r f (by omega)).trans c2).trans (nn 4 (by omega)).symm, ((frm_r f (by omega)).trans c3).trans (nn 5 (by omega)).symm⟩, fun j p q => ?_, fun j p q => ?_, fun j p q => ?_⟩
  · by_cases z : j = 0
    · rw [z, ns]; exact e
    · rw [nn j z]; exact (frm_r f (by omega)).trans (b j p q)
  · rw [ns] at q
    rw [g_ke0]
    by_cases z : j = i
    · rw [if_pos z, z]
      intro u u0 u1
      rw [show 162 * 0 + (81 * i + u) = 81 * i + u by omega]; exact F u u0 u1
    · rw [if_neg z]
      intro u u0 u1
      exact (frm_r f (by omega)).trans (d j p (by omega) u u0 u1)
  · rw [nn 1 (by omega)] at q
    intro u u0 u1
    exact (frm_r f (by omega)).trans (y j p q u u0 u1)
  · rw [nn 2 (by omega)] at q
    intro u u0 u1
    exact (frm_r f (by omega)).trans (k j p q u u0 u1)
theorem cn_ke1 {σ : Sg} {i k : Int} {C : Int → Int} : cn (keS1 σ i C) k = if k = 1 then max (cn σ 1) (i + 1) else cn σ k := rfl
theorem g_ke1 {σ : Sg} {i k : Int} {C : Int → Int} : sY (keS1 σ i C) k = if k = i then C else sY σ k := rfl
theorem yAt_n {t : Nat} {i k : Int} (n : k ≠ i) (i0 : 0 ≤ i ∧ i < 2) (k0 : 0 ≤ k ∧ k < 2) : yAt t k + 4 ≤ yAt t i ∨ yAt t i + 4 ≤ yAt t k := by
  unfold yAt
  split
  · rw [if_neg (by omega)]; omega
  · rw [if_pos (by omega)]; omega
theorem ke1_w {σ : Sg} {i : Int} {C : Int → Int} (w : wfS σ) (c : wfY C) (i0 : 0 ≤ i ∧ i < 2) (il : i ≤ cn σ 1) : wfS (keS1 σ i C) := by
  have n := wS_n w
  have nn : ∀ k, k ≠ 1 → cn (keS1 σ i C) k = cn σ k := fun k z => by rw [cn_ke1, if_neg z]
  have ns : cn (keS1 σ i C) 1 = max (cn σ 1) (i + 1) := by rw [cn_ke1, if_pos rfl]
  have n0 := nn 0 (by omega)
  have n2 := nn 2 (by omega)
  have n3 := nn 3 (by omega)
  have n4 := nn 4 (by omega)
  have n5 := nn 5 (by omega)
  refine ⟨⟨by omega, by omega, by omega, by omega, by omega, by omega⟩, w.2.1, fun k a z => ?_, fun k a z => ?_, fun k a z => ?_⟩
  · exact w.2.2.1 k a (by omega)
  · rw [g_ke1]
    by_cases q : k = i
    · rw [if_pos q]; exact c
    · rw [if_neg q]; exact w.2.2.2.1 k a (by omega)
  · exact w.2.2.2.2 k a (by omega)
theorem clsT_k1 {h h1 : mH} {t : Nat} {σ : Sg} {i : Int} {C : Int → Int} (H : clsT h t σ) (f : frm (fun a k => (yAt t i ≤ a ∧ a < yAt t i + 4) ∨ (a = t + 5 ∧ k = 1)) h h1) (F : isY h1 (yAt t i) C) (e : rI h1 (t + 5) 1 = max (cn σ 1) (i + 1)) (c : wfY C) (i0 : 0 ≤ i ∧ i < 2) (il : i ≤ cn σ 1) : clsT h1 t (keS1 σ i C) := by
  obtain ⟨w, a, b, ⟨c1, c2, c3⟩, d, y, k⟩ := H
  have n := wS_n w
  have ab := yAt_b t i
  have nn : ∀ k, k ≠ 1 → cn (keS1 σ i C) k = cn σ k := fun k z => by rw [cn_ke1, if_neg z]
  have ns : cn (keS1 σ i C) 1 = max (cn σ 1) (i + 1) := by rw [cn_ke1, if_pos rfl]
  refine ⟨ke1_w w c i0 il, fun j p q => (frm_r f (by omega)).trans (a j p q), fun j p q => ?_, ⟨((frm_r f (by omega)).trans c1).trans (nn 3 (by omega)).symm, ((frm_r f (by omega)).trans c2).trans (nn 4 (by omega)).symm, ((frm_r f (by omega)).trans c3).trans (nn 5 (by omega)).symm⟩, fun j p q => ?_, fun j p q => ?_, fun j p q => ?_⟩
  · by_cases z : j = 1
    · rw [z, ns]; exact e
    · rw [nn j z]; exact (frm_r f (by omega)).trans (b j p q)
  · rw [nn 0 (by omega)] at q
    have aj := fAt_b t j
    exact isF_c f (fun a k x y => by omega) (d j p q)
  · rw [ns] at q
    rw [g_ke1]
    by_cases z : j = i
    · rw [if_pos z, z]; exact F
    · rw [if_neg z]
      have an := yAt_n (t := t) z i0 ⟨p, by omega⟩
      have aj := yAt_b t j
      exact isY_c f (fun a k x y => by omega) (y j p (by omega))
  · rw [nn 2 (by omega)] at q
    have aj := kAt_b t j
    exact isK_c f (fun a k x y => by omega) (k j p q)
theorem refT_k1 {h h1 : mH} {m : Nat} {σ : Sg} {i : Int} {C : Int → Int} (H : refT h m 0 σ) (f : frm (fun a k => (a = m + 7 ∧ 121 * i ≤ (k : Int) ∧ (k : Int) < 121 * i + 121) ∨ (a = m + 5 ∧ k = 1)) h h1) (F : ∀ j : Int, 0 ≤ j → j < 121 → rI h1 (m + 7) (121 * i + j) = C j) (e : rI h1 (m + 5) 1 = max (cn σ 1) (i + 1)) (c : wfY C) (i0 : 0 ≤ i ∧ i < 2) (il : i ≤ cn σ 1) : refT h1 m 0 (keS1 σ i C) := by
  obtain ⟨w, a, b, ⟨c1, c2, c3⟩, d, y, k⟩ := H
  have n := wS_n w
  have nn : ∀ k, k ≠ 1 → cn (keS1 σ i C) k = cn σ k := fun k z => by rw [cn_ke1, if_neg z]
  have ns : cn (keS1 σ i C) 1 = max (cn σ 1) (i + 1) := by rw [cn_ke1, if_pos rfl]
  refine ⟨ke1_w w c i0 il, fun j p q => (frm_r f (by omega)).trans (a j p q), fun j p q => ?_, ⟨((frm_r f (by omega)).trans c1).trans (nn 3 (by omega)).symm, ((frm_r f (by omega)).trans c2).trans (nn 4 (by omega)).symm, ((frm_r f (by omega)).trans c3).trans (nn 5 (by omega)).symm⟩, fun j p q => ?_, fun j p q => ?_, fun j p q => ?_⟩
  · by_cases z : j = 1
    · rw [z, ns]; exact e
    · rw [nn j z]; exact (frm_r f (by omega)).trans (b j p q)
  · rw [nn 0 (by omega)] at q
    intro u u0 u1
    exact (frm_r f (by omega)).trans (d j p q u u0 u1)
  · rw [ns] at q
    rw [g_ke1]
    by_cases z : j = i
    · rw [if_pos z, z]
      intro u u0 u1
      rw [show 242 * 0 + (121 * i + u) = 121 * i + u by omega]; exact F u u0 u1
    · rw [if_neg z]
      intro u u0 u1
      exact (frm_r f (by omega)).trans (y j p (by omega) u u0 u1)
  · rw [nn 2 (by omega)] at q
    intro u u0 u1
    exact (frm_r f (by omega)).trans (k j p q u u0 u1)
theorem cn_ke2 {σ : Sg} {i k : Int} {C : Int → Int} : cn (keS2 σ i C) k = if k = 2 then max (cn σ 2) (i + 1) else cn σ k := rfl
theorem g_ke2 {σ : Sg} {i k : Int} {C : Int → Int} : sC (keS2 σ i C) k = if k = i then C else sC σ k := rfl
theorem kAt_n {t : Nat} {i k : Int} (n : k ≠ i) (i0 : 0 ≤ i ∧ i < 2) (k0 : 0 ≤ k ∧ k < 2) : kAt t k + 4 ≤ kAt t i ∨ kAt t i + 4 ≤ kAt t k := by
  unfold kAt
  split
  · rw [if_neg (by omega)]; omega
  · rw [if_pos (by omega)]; omega
theorem ke2_w {σ : Sg} {i : Int} {C : Int → Int} (w : wfS σ) (c : wfK C) (i0 : 0 ≤ i ∧ i < 2) (il : i ≤ cn σ 2) : wfS (keS2 σ i C) := by
  have n := wS_n w
  have nn : ∀ k, k ≠ 2 → cn (keS2 σ i C) k = cn σ k := fun k z => by rw [cn_ke2, if_neg z]
  have ns : cn (keS2 σ i C) 2 = max (cn σ 2) (i + 1) := by rw [cn_ke2, if_pos rfl]
  have n0 := nn 0 (by omega)
  have n1 := nn 1 (by omega)
  have n3 := nn 3 (by omega)
  have n4 := nn 4 (by omega)
  have n5 := nn 5 (by omega)
  refine ⟨⟨by omega, by omega, by omega, by omega, by omega, by omega⟩, w.2.1, fun k a z => ?_, fun k a z => ?_, fun k a z => ?_⟩
  · exact w.2.2.1 k a (by omega)
  · exact w.2.2.2.1 k a (by omega)
  · rw [g_ke2]
    by_cases q : k = i
    · rw [if_pos q]; exact c
    · rw [if_neg q]; exact w.2.2.2.2 k a (by omega)
theorem clsT_k2 {h h1 : mH} {t : Nat} {σ : Sg} {i : Int} {C : Int → Int} (H : clsT h t σ) (f : frm (fun a k => (kAt t i ≤ a ∧ a < kAt t i + 4) ∨ (a = t + 5 ∧ k = 2)) h h1) (F : isK h1 (kAt t i) C) (e : rI h1 (t + 5) 2 = max (cn σ 2) (i + 1)) (c : wfK C) (i0 : 0 ≤ i ∧ i < 2) (il : i ≤ cn σ 2) : clsT h1 t (keS2 σ i C) := by
  obtain ⟨w, a, b, ⟨c1, c2, c3⟩, d, y, k⟩ := H
  have n := wS_n w
  have ab := kAt_b t i
  have nn : ∀ k, k ≠ 2 → cn (keS2 σ i C) k = cn σ k := fun k z => by rw [cn_ke2, if_neg z]
  have ns : cn (keS2 σ i C) 2 = max (cn σ 2) (i + 1) := by rw [cn_ke2, if_pos rfl]
  refine ⟨ke2_w w c i0 il, fun j p q => (frm_r f (by omega)).trans (a j p q), fun j p q => ?_, ⟨((frm_r f (by omega)).trans c1).trans (nn 3 (by omega)).symm, ((frm_r f (by omega)).trans c2).trans (nn 4 (by omega)).symm, ((frm_r f (by omega)).trans c3).trans (nn 5 (by omega)).symm⟩, fun j p q => ?_, fun j p q => ?_, fun j p q => ?_⟩
  · by_cases z : j = 2
    · rw [z, ns]; exact e
    · rw [nn j z]; exact (frm_r f (by omega)).trans (b j p q)
  · rw [nn 0 (by omega)] at q
    have aj := fAt_b t j
    exact isF_c f (fun a k x y => by omega) (d j p q)
  · rw [nn 1 (by omega)] at q
    have aj := yAt_b t j
    exact isY_c f (fun a k x y => by omega) (y j p q)
  · rw [ns] at q
    rw [g_ke2]
    by_cases z : j = i
    · rw [if_pos z, z]; exact F
    · rw [if_neg z]
      have an := kAt_n (t := t) z i0 ⟨p, by omega⟩
      have aj := kAt_b t j
      exact isK_c f (fun a k x y => by omega) (k j p (by omega))
theorem refT_k2 {h h1 : mH} {m : Nat} {σ : Sg} {i : Int} {C : Int → Int} (H : refT h m 0 σ) (f : frm (fun a k => (a = m + 8 ∧ 25 * i ≤ (k : Int) ∧ (k : Int) < 25 * i + 25) ∨ (a = m + 5 ∧ k = 2)) h h1) (F : ∀ j : Int, 0 ≤ j → j < 25 → rI h1 (m + 8) (25 * i + j) = C j) (e : rI h1 (m + 5) 2 = max (cn σ 2) (i + 1)) (c : wfK C) (i0 : 0 ≤ i ∧ i < 2) (il : i ≤ cn σ 2) : refT h1 m 0 (keS2 σ i C) := by
  obtain ⟨w, a, b, ⟨c1, c2, c3⟩, d, y, k⟩ := H
  have n := wS_n w
  have nn : ∀ k, k ≠ 2 → cn (keS2 σ i C) k = cn σ k := fun k z => by rw [cn_ke2, if_neg z]
  have ns : cn (keS2 σ i C) 2 = max (cn σ 2) (i + 1) := by rw [cn_ke2, if_pos rfl]
  refine ⟨ke2_w w c i0 il, fun j p q => (frm_r f (by omega)).trans (a j p q), fun j p q => ?_, ⟨((frm_r f (by omega)).trans c1).trans (nn 3 (by omega)).symm, ((frm_r f (by omega)).trans c2).trans (nn 4 (by omega)).symm, ((frm_r f (by omega)).trans c3).trans (nn 5 (by omega)).symm⟩, fun j p q => ?_, fun j p q => ?_, fun j p q => ?_⟩
  · by_cases z : j = 2
    · rw [z, ns]; exact e
    · rw [nn j z]; exact (frm_r f (by omega)).trans (b j p q)
  · rw [nn 0 (by omega)] at q
    intro u u0 u1
    exact (frm_r f (by omega)).trans (d j p q u u0 u1)
  · rw [nn 1 (by omega)] at q
    intro u u0 u1
    exact (frm_r f (by omega)).trans (y j p q u u0 u1)
  · rw [ns] at q
    rw [g_ke2]
    by_cases z : j = i
    · rw [if_pos z, z]
      intro u u0 u1
      rw [show 50 * 0 + (25 * i + u) = 25 * i + u by omega]; exact F u u0 u1
    · rw [if_neg z]
      intro u u0 u1
      exact (frm_r f (by omega)).trans (k j p (by omega) u u0 u1)
set_option maxHeartbeats 400000 in
theorem zp_X12_store_0 {ad : mA} {dd : Nat} {h : mH} {Q : mQ} {m : Nat} {C : Int → Int} (hk : rk h m) (HC : rfC h m C)  (k : Int) (k_r : -2147483648 ≤ k ∧ k < 2147483648) (pk : 0 ≤ k ∧ k < 2) (kq : ∀ h1, frm (fun a j => a = m + 6 ∧ 81 * k ≤ (j : Int) ∧ (j : Int) < 81 * k + 81) h h1 → (∀ j : Int, 0 ≤ j → j < 81 → rI h1 (m + 6) (81 * k + j) = C j) → Q none h1) : mCal TB0 ad (dd + 1) M_X12_store [.ref m, .ref (m + 6), .int (zI 81), .int (zI k)] h 0 0 Q := by
  refine ⟨Nat.le_of_ble_eq_true rfl, ?_⟩
  show mEv TB0 ad M_X12_store (dd + 1) (0, 0) (mCal TB0 ad (dd + 0)) (fun v h' z => z.1 = 0 ∧ Q v h') 0 [some (.ref m), some (.ref (m + 6)), some (.int (zI 81)), some (.int (zI k)), none] [] h (0, 0)
  have FR0 : frm (fun a j => a = m + 6 ∧ 81 * k ≤ (j : Int) ∧ (j : Int) < 81 * k + 81) h h := frm_0 h
  refine z_iconst (0) dX12_store_0 rfl ?_
  refine e_istore (L' := [_, _, _, _, _]) dX12_store_1 (Nat.le_of_ble_eq_true rfl) rfl ?_
  have lp1 : ∀ (n1 : Nat) (i : Int) (h1 : mH), (81 - i).toNat = n1 → (rk h1 m) → (rfC h1 m C) → (frm (fun a j => a = m + 6 ∧ 81 * k ≤ (j : Int) ∧ (j : Int) < 81 * k + 81) h h1) → (0 ≤ i ∧ i ≤ 81) → (∀ j : Int, 0 ≤ j → j < i → rI h1 (m + 6) (81 * k + j) = C j) → mEv TB0 ad M_X12_store (dd + 1) (0, 0) (mCal TB0 ad (dd + 0)) (fun v h' z => z.1 = 0 ∧ Q v h') 3 [some (.ref m), some (.ref (m + 6)), some (.int (zI 81)), some (.int (zI k)), some (.int (zI i))] [] h1 (0, 0) := by
    intro n1
    induction n1 using Nat.strongRecOn with
    | ind n1 ih1 =>
    intro i h1 hn1 k2 H3 FR4 I1 I2
    refine e_iload dX12_store_3 rfl ?_
    refine e_iload_n dX12_store_5 rfl ?_
    refine z_icmp_ge 30 dX12_store_6 rfl ⟨by omega, by omega⟩ ⟨by omega, by omega⟩ (fun c5 => ?_) (fun c5 => ?_)
    · skip
      refine e_vret dX12_store_30 rfl ⟨rfl, ?_⟩
      exact kq _ FR4 (fun j a z => I2 j a (by omega))
    · skip
      refine e_aload_n dX12_store_9 rfl ?_
      refine e_iload_n dX12_store_10 rfl ?_
      refine e_iload_n dX12_store_11 rfl ?_
      refine z_imul dX12_store_12 ?_
      refine e_iload dX12_store_13 rfl ?_
      refine z_iadd dX12_store_15 ?_
      refine e_aload_n dX12_store_16 rfl ?_
      refine e_get (.ref (m + 9)) dX12_store_17 tf_12_35 (rk_s k2) (congrArg va_rf (rk_r9 k2)) ?_
      refine e_iload dX12_store_20 rfl ?_
      refine z_ild (C i) dX12_store_22 (rk_a9 k2) (by decide) (by omega) (by omega) (H3 i (by omega) (by omega)) ?_
      have y6 := rI_r (H3 i (by omega) (by omega))
      refine z_ist dX12_store_23 (rk_a6 k2) (by decide) (by omega) (by omega) (fun h7 e8 => ?_)
      have f9 := frm_1 e8
      have k10 := rk_q (frm_s f9) k2
      have H11 := rfC_c f9 (fun a k q => by omega) H3
      have FR12 := frm_t FR4 (frm_m (S' := (fun a j => a = m + 6 ∧ 81 * k ≤ (j : Int) ∧ (j : Int) < 81 * k + 81)) f9 (fun a k q => by omega))
      refine z_iinc (L' := [_, _, _, _, _]) dX12_store_24 rfl rfl ?_
      refine e_goto 3 dX12_store_27 rfl ?_
      exact ih1 _ (by omega) (i + 1) h7 rfl k10 H11 FR12 (by omega) (fun j a z => by
        by_cases q : j = i
        · rw [q]; exact (rI_eq e8 ⟨by omega, by omega⟩)
        · exact ((frm_r f9 (by omega))).trans (I2 j a (by omega)))
  exact lp1 _ 0 h rfl hk HC FR0 (by omega) (fun j a z => by omega)
set_option maxHeartbeats 400000 in
theorem zp_X12_store_1 {ad : mA} {dd : Nat} {h : mH} {Q : mQ} {m : Nat} {C : Int → Int} (hk : rk h m) (HC : rfC h m C)  (k : Int) (k_r : -2147483648 ≤ k ∧ k < 2147483648) (pk : 0 ≤ k ∧ k < 2) (kq : ∀ h1, frm (fun a j => a = m + 7 ∧ 121 * k ≤ (j : Int) ∧ (j : Int) < 121 * k + 121) h h1 → (∀ j : Int, 0 ≤ j → j < 121 → rI h1 (m + 7) (121 * k + j) = C j) → Q none h1) : mCal TB0 ad (dd + 1) M_X12_store [.ref m, .ref (m + 7), .int (zI 121), .int (zI k)] h 0 0 Q := by
  refine ⟨Nat.le_of_ble_eq_true rfl, ?_⟩
  show mEv TB0 ad M_X12_store (dd + 1) (0, 0) (mCal TB0 ad (dd + 0)) (fun v h' z => z.1 = 0 ∧ Q v h') 0 [some (.ref m), some (.ref (m + 7)), some (.int (zI 121)), some (.int (zI k)), none] [] h (0, 0)
  have FR0 : frm (fun a j => a = m + 7 ∧ 121 * k ≤ (j : Int) ∧ (j : Int) < 121 * k + 121) h h := frm_0 h
  refine z_iconst (0) dX12_store_0 rfl ?_
  refine e_istore (L' := [_, _, _, _, _]) dX12_store_1 (Nat.le_of_ble_eq_true rfl) rfl ?_
  have lp1 : ∀ (n1 : Nat) (i : Int) (h1 : mH), (121 - i).toNat = n1 → (rk h1 m) → (rfC h1 m C) → (frm (fun a j => a = m + 7 ∧ 121 * k ≤ (j : Int) ∧ (j : Int) < 121 * k + 121) h h1) → (0 ≤ i ∧ i ≤ 121) → (∀ j : Int, 0 ≤ j → j < i → rI h1 (m + 7) (121 * k + j) = C j) → mEv TB0 ad M_X12_store (dd + 1) (0, 0) (mCal TB0 ad (dd + 0)) (fun v h' z => z.1 = 0 ∧ Q v h') 3 [some (.ref m), some (.ref (m + 7)), some (.int (zI 121)), some (.int (zI k)), some (.int (zI i))] [] h1 (0, 0) := by
    intro n1
    induction n1 using Nat.strongRecOn with
    | ind n1 ih1 =>
    intro i h1 hn1 k2 H3 FR4 I1 I2
    refine e_iload dX12_store_3 rfl ?_
    refine e_iload_n dX12_store_5 rfl ?_
    refine z_icmp_ge 30 dX12_store_6 rfl ⟨by omega, by omega⟩ ⟨by omega, by omega⟩ (fun c5 => ?_) (fun c5 => ?_)
    · skip
      refine e_vret dX12_store_30 rfl ⟨rfl, ?_⟩
      exact kq _ FR4 (fun j a z => I2 j a (by omega))
    · skip
      refine e_aload_n dX12_store_9 rfl ?_
      refine e_iload_n dX12_store_10 rfl ?_
      refine e_iload_n dX12_store_11 rfl ?_
      refine z_imul dX12_store_12 ?_
      refine e_iload dX12_store_13 rfl ?_
      refine z_iadd dX12_store_15 ?_
      refine e_aload_n dX12_store_16 rfl ?_
      refine e_get (.ref (m + 9)) dX12_store_17 tf_12_35 (rk_s k2) (congrArg va_rf (rk_r9 k2)) ?_
      refine e_iload dX12_store_20 rfl ?_
      refine z_ild (C i) dX12_store_22 (rk_a9 k2) (by decide) (by omega) (by omega) (H3 i (by omega) (by omega)) ?_
      have y6 := rI_r (H3 i (by omega) (by omega))
      refine z_ist dX12_store_23 (rk_a7 k2) (by decide) (by omega) (by omega) (fun h7 e8 => ?_)
      have f9 := frm_1 e8
      have k10 := rk_q (frm_s f9) k2
      have H11 := rfC_c f9 (fun a k q => by omega) H3
      have FR12 := frm_t FR4 (frm_m (S' := (fun a j => a = m + 7 ∧ 121 * k ≤ (j : Int) ∧ (j : Int) < 121 * k + 121)) f9 (fun a k q => by omega))
      refine z_iinc (L' := [_, _, _, _, _]) dX12_store_24 rfl rfl ?_
      refine e_goto 3 dX12_store_27 rfl ?_
      exact ih1 _ (by omega) (i + 1) h7 rfl k10 H11 FR12 (by omega) (fun j a z => by
        by_cases q : j = i
        · rw [q]; exact (rI_eq e8 ⟨by omega, by omega⟩)
        · exact ((frm_r f9 (by omega))).trans (I2 j a (by omega)))
  exact lp1 _ 0 h rfl hk HC FR0 (by omega) (fun j a z => by omega)
set_option maxHeartbeats 400000 in
theorem zp_X12_store_2 {ad : mA} {dd : Nat} {h : mH} {Q : mQ} {m : Nat} {C : Int → Int} (hk : rk h m) (HC : rfC h m C)  (k : Int) (k_r : -2147483648 ≤ k ∧ k < 2147483648) (pk : 0 ≤ k ∧ k < 2) (kq : ∀ h1, frm (fun a j => a = m + 8 ∧ 25 * k ≤ (j : Int) ∧ (j : Int) < 25 * k + 25) h h1 → (∀ j : Int, 0 ≤ j → j < 25 → rI h1 (m + 8) (25 * k + j) = C j) → Q none h1) : mCal TB0 ad (dd + 1) M_X12_store [.ref m, .ref (m + 8), .int (zI 25), .int (zI k)] h 0 0 Q := by
  refine ⟨Nat.le_of_ble_eq_true rfl, ?_⟩
  show mEv TB0 ad M_X12_store (dd + 1) (0, 0) (mCal TB0 ad (dd + 0)) (fun v h' z => z.1 = 0 ∧ Q v h') 0 [some (.ref m), some (.ref (m + 8)), some (.int (zI 25)), some (.int (zI k)), none] [] h (0, 0)
  have FR0 : frm (fun a j => a = m + 8 ∧ 25 * k ≤ (j : Int) ∧ (j : Int) < 25 * k + 25) h h := frm_0 h
  refine z_iconst (0) dX12_store_0 rfl ?_
  refine e_istore (L' := [_, _, _, _, _]) dX12_store_1 (Nat.le_of_ble_eq_true rfl) rfl ?_
  have lp1 : ∀ (n1 : Nat) (i : Int) (h1 : mH), (25 - i).toNat = n1 → (rk h1 m) → (rfC h1 m C) → (frm (fun a j => a = m + 8 ∧ 25 * k ≤ (j : Int) ∧ (j : Int) < 25 * k + 25) h h1) → (0 ≤ i ∧ i ≤ 25) → (∀ j : Int, 0 ≤ j → j < i → rI h1 (m + 8) (25 * k + j) = C j) → mEv TB0 ad M_X12_store (dd + 1) (0, 0) (mCal TB0 ad (dd + 0)) (fun v h' z => z.1 = 0 ∧ Q v h') 3 [some (.ref m), some (.ref (m + 8)), some (.int (zI 25)), some (.int (zI k)), some (.int (zI i))] [] h1 (0, 0) := by
    intro n1
    induction n1 using Nat.strongRecOn with
    | ind n1 ih1 =>
    intro i h1 hn1 k2 H3 FR4 I1 I2
    refine e_iload dX12_store_3 rfl ?_
    refine e_iload_n dX12_store_5 rfl ?_
    refine z_icmp_ge 30 dX12_store_6 rfl ⟨by omega, by omega⟩ ⟨by omega, by omega⟩ (fun c5 => ?_) (fun c5 => ?_)
    · skip
      refine e_vret dX12_store_30 rfl ⟨rfl, ?_⟩
      exact kq _ FR4 (fun j a z => I2 j a (by omega))
    · skip
      refine e_aload_n dX12_store_9 rfl ?_
      refine e_iload_n dX12_store_10 rfl ?_
      refine e_iload_n dX12_store_11 rfl ?_
      refine z_imul dX12_store_12 ?_
      refine e_iload dX12_store_13 rfl ?_
      refine z_iadd dX12_store_15 ?_
      refine e_aload_n dX12_store_16 rfl ?_
      refine e_get (.ref (m + 9)) dX12_store_17 tf_12_35 (rk_s k2) (congrArg va_rf (rk_r9 k2)) ?_
      refine e_iload dX12_store_20 rfl ?_
      refine z_ild (C i) dX12_store_22 (rk_a9 k2) (by decide) (by omega) (by omega) (H3 i (by omega) (by omega)) ?_
      have y6 := rI_r (H3 i (by omega) (by omega))
      refine z_ist dX12_store_23 (rk_a8 k2) (by decide) (by omega) (by omega) (fun h7 e8 => ?_)
      have f9 := frm_1 e8
      have k10 := rk_q (frm_s f9) k2
      have H11 := rfC_c f9 (fun a k q => by omega) H3
      have FR12 := frm_t FR4 (frm_m (S' := (fun a j => a = m + 8 ∧ 25 * k ≤ (j : Int) ∧ (j : Int) < 25 * k + 25)) f9 (fun a k q => by omega))
      refine z_iinc (L' := [_, _, _, _, _]) dX12_store_24 rfl rfl ?_
      refine e_goto 3 dX12_store_27 rfl ?_
      exact ih1 _ (by omega) (i + 1) h7 rfl k10 H11 FR12 (by omega) (fun j a z => by
        by_cases q : j = i
        · rw [q]; exact (rI_eq e8 ⟨by omega, by omega⟩)
        · exact ((frm_r f9 (by omega))).trans (I2 j a (by omega)))
  exact lp1 _ 0 h rfl hk HC FR0 (by omega) (fun j a z => by omega)
set_option maxHeartbeats 400000 in
theorem zp_X8_target_0 {ad : mA} {dd : Nat} {h : mH} {Q : mQ} {t : Nat}  (hk : tdk h t) (c : Int) (b : Int) (b_r : -2147483648 ≤ b ∧ b < 2147483648) (e : rI h (t + 5) 0 = c) (cb : 0 ≤ c ∧ c ≤ 2) (kq : ∀ v : Int, (((b = -1 ∧ c < 2) ∧ v = c) ∨ ((0 ≤ b ∧ b < c) ∧ v = b) ∨ (¬ (b = -1 ∧ c < 2) ∧ ¬ (0 ≤ b ∧ b < c) ∧ v = -2)) → Q (some (.int (zI v))) h) : mCal TB0 ad (dd + 1) M_X8_target [.ref t, .int (zI 0), .int (zI b)] h 0 0 Q := by
  refine ⟨Nat.le_of_ble_eq_true rfl, ?_⟩
  show mEv TB0 ad M_X8_target (dd + 1) (0, 0) (mCal TB0 ad (dd + 0)) (fun v h' z => z.1 = 0 ∧ Q v h') 0 [some (.ref t), some (.int (zI 0)), some (.int (zI b))] [] h (0, 0)
  refine e_iload_n dX8_target_0 rfl ?_
  refine z_if_lt 9 dX8_target_1 rfl ⟨by omega, by omega⟩ (fun c1 => ?_) (fun c1 => ?_)
  · exfalso; omega
  · skip
    refine e_iload_n dX8_target_4 rfl ?_
    refine z_iconst (3) dX8_target_5 rfl ?_
    refine z_icmp_lt 12 dX8_target_6 rfl ⟨by omega, by omega⟩ ⟨by omega, by omega⟩ (fun c2 => ?_) (fun c2 => ?_)
    · skip
      refine e_iload_n dX8_target_12 rfl ?_
      refine z_iconst (-1) dX8_target_13 rfl ?_
      refine z_icmp_ne 39 dX8_target_14 rfl ⟨by omega, by omega⟩ ⟨by omega, by omega⟩ (fun c3 => ?_) (fun c3 => ?_)
      · skip
        refine e_iload_n dX8_target_39 rfl ?_
        refine z_if_lt 57 dX8_target_40 rfl ⟨by omega, by omega⟩ (fun c4 => ?_) (fun c4 => ?_)
        · skip
          refine z_bipush (-2) dX8_target_57 rfl ?_
          refine z_iret dX8_target_59 rfl ⟨rfl, ?_⟩
          refine kq _ ?_
          omega
        · skip
          refine e_iload_n dX8_target_43 rfl ?_
          refine e_aload_n dX8_target_44 rfl ?_
          refine e_get (.ref (t + 5)) dX8_target_45 tf_8_33 (congrArg Prod.fst (td_s0 hk)) (congrArg va_rf (td_r0_4 hk)) ?_
          refine e_iload_n dX8_target_48 rfl ?_
          refine z_ild c dX8_target_49 (td_s5 hk) (by decide) (by omega) (by omega) e ?_
          refine z_icmp_ge 57 dX8_target_50 rfl ⟨by omega, by omega⟩ ⟨by omega, by omega⟩ (fun c5 => ?_) (fun c5 => ?_)
          · skip
            refine z_bipush (-2) dX8_target_57 rfl ?_
            refine z_iret dX8_target_59 rfl ⟨rfl, ?_⟩
            refine kq _ ?_
            omega
          · skip
            refine e_iload_n dX8_target_53 rfl ?_
            refine e_goto 59 dX8_target_54 rfl ?_
            refine z_iret dX8_target_59 rfl ⟨rfl, ?_⟩
            refine kq _ ?_
            omega
      · skip
        refine e_aload_n dX8_target_17 rfl ?_
        refine e_get (.ref (t + 5)) dX8_target_18 tf_8_33 (congrArg Prod.fst (td_s0 hk)) (congrArg va_rf (td_r0_4 hk)) ?_
        refine e_iload_n dX8_target_21 rfl ?_
        refine z_ild c dX8_target_22 (td_s5 hk) (by decide) (by omega) (by omega) e ?_
        refine z_iconst (2) dX8_target_23 rfl ?_
        refine z_icmp_ge 36 dX8_target_24 rfl ⟨by omega, by omega⟩ ⟨by omega, by omega⟩ (fun c6 => ?_) (fun c6 => ?_)
        · skip
          refine z_bipush (-2) dX8_target_36 rfl ?_
          refine z_iret dX8_target_38 rfl ⟨rfl, ?_⟩
          refine kq _ ?_
          omega
        · skip
          refine e_aload_n dX8_target_27 rfl ?_
          refine e_get (.ref (t + 5)) dX8_target_28 tf_8_33 (congrArg Prod.fst (td_s0 hk)) (congrArg va_rf (td_r0_4 hk)) ?_
          refine e_iload_n dX8_target_31 rfl ?_
          refine z_ild c dX8_target_32 (td_s5 hk) (by decide) (by omega) (by omega) e ?_
          refine e_goto 38 dX8_target_33 rfl ?_
          refine z_iret dX8_target_38 rfl ⟨rfl, ?_⟩
          refine kq _ ?_
          omega
    · exfalso; omega
set_option maxHeartbeats 400000 in
theorem zp_X8_target_1 {ad : mA} {dd : Nat} {h : mH} {Q : mQ} {t : Nat}  (hk : tdk h t) (c : Int) (b : Int) (b_r : -2147483648 ≤ b ∧ b < 2147483648) (e : rI h (t + 5) 1 = c) (cb : 0 ≤ c ∧ c ≤ 2) (kq : ∀ v : Int, (((b = -1 ∧ c < 2) ∧ v = c) ∨ ((0 ≤ b ∧ b < c) ∧ v = b) ∨ (¬ (b = -1 ∧ c < 2) ∧ ¬ (0 ≤ b ∧ b < c) ∧ v = -2)) → Q (some (.int (zI v))) h) : mCal TB0 ad (dd + 1) M_X8_target [.ref t, .int (zI 1), .int (zI b)] h 0 0 Q := by
  refine ⟨Nat.le_of_ble_eq_true rfl, ?_⟩
  show mEv TB0 ad M_X8_target (dd + 1) (0, 0) (mCal TB0 ad (dd + 0)) (fun v h' z => z.1 = 0 ∧ Q v h') 0 [some (.ref t), some (.int (zI 1)), some (.int (zI b))] [] h (0, 0)
  refine e_iload_n dX8_target_0 rfl ?_
  refine z_if_lt 9 dX8_target_1 rfl ⟨by omega, by omega⟩ (fun c1 => ?_) (fun c1 => ?_)
  · exfalso; omega
  · skip
    refine e_iload_n dX8_target_4 rfl ?_
    refine z_iconst (3) dX8_target_5 rfl ?_
    refine z_icmp_lt 12 dX8_target_6 rfl ⟨by omega, by omega⟩ ⟨by omega, by omega⟩ (fun c2 => ?_) (fun c2 => ?_)
    · skip
      refine e_iload_n dX8_target_12 rfl ?_
      refine z_iconst (-1) dX8_target_13 rfl ?_
      refine z_icmp_ne 39 dX8_target_14 rfl ⟨by omega, by omega⟩ ⟨by omega, by omega⟩ (fun c3 => ?_) (fun c3 => ?_)
      · skip
        refine e_iload_n dX8_target_39 rfl ?_
        refine z_if_lt 57 dX8_target_40 rfl ⟨by omega, by omega⟩ (fun c4 => ?_) (fun c4 => ?_)
        · skip
          refine z_bipush (-2) dX8_target_57 rfl ?_
          refine z_iret dX8_target_59 rfl ⟨rfl, ?_⟩
          refine kq _ ?_
          omega
        · skip
          refine e_iload_n dX8_target_43 rfl ?_
          refine e_aload_n dX8_target_44 rfl ?_
          refine e_get (.ref (t + 5)) dX8_target_45 tf_8_33 (congrArg Prod.fst (td_s0 hk)) (congrArg va_rf (td_r0_4 hk)) ?_
          refine e_iload_n dX8_target_48 rfl ?_
          refine z_ild c dX8_target_49 (td_s5 hk) (by decide) (by omega) (by omega) e ?_
          refine z_icmp_ge 57 dX8_target_50 rfl ⟨by omega, by omega⟩ ⟨by omega, by omega⟩ (fun c5 => ?_) (fun c5 => ?_)
          · skip
            refine z_bipush (-2) dX8_target_57 rfl ?_
            refine z_iret dX8_target_59 rfl ⟨rfl, ?_⟩
            refine kq _ ?_
            omega
          · skip
            refine e_iload_n dX8_target_53 rfl ?_
            refine e_goto 59 dX8_target_54 rfl ?_
            refine z_iret dX8_target_59 rfl ⟨rfl, ?_⟩
            refine kq _ ?_
            omega
      · skip
        refine e_aload_n dX8_target_17 rfl ?_
        refine e_get (.ref (t + 5)) dX8_target_18 tf_8_33 (congrArg Prod.fst (td_s0 hk)) (congrArg va_rf (td_r0_4 hk)) ?_
        refine e_iload_n dX8_target_21 rfl ?_
        refine z_ild c dX8_target_22 (td_s5 hk) (by decide) (by omega) (by omega) e ?_
        refine z_iconst (2) dX8_target_23 rfl ?_
        refine z_icmp_ge 36 dX8_target_24 rfl ⟨by omega, by omega⟩ ⟨by omega, by omega⟩ (fun c6 => ?_) (fun c6 => ?_)
        · skip
          refine z_bipush (-2) dX8_target_36 rfl ?_
          refine z_iret dX8_target_38 rfl ⟨rfl, ?_⟩
          refine kq _ ?_
          omega
        · skip
          refine e_aload_n dX8_target_27 rfl ?_
          refine e_get (.ref (t + 5)) dX8_target_28 tf_8_33 (congrArg Prod.fst (td_s0 hk)) (congrArg va_rf (td_r0_4 hk)) ?_
          refine e_iload_n dX8_target_31 rfl ?_
          refine z_ild c dX8_target_32 (td_s5 hk) (by decide) (by omega) (by omega) e ?_
          refine e_goto 38 dX8_target_33 rfl ?_
          refine z_iret dX8_target_38 rfl ⟨rfl, ?_⟩
          refine kq _ ?_
          omega
    · exfalso; omega
set_option maxHeartbeats 400000 in
theorem zp_X8_target_2 {ad : mA} {dd : Nat} {h : mH} {Q : mQ} {t : Nat}  (hk : tdk h t) (c : Int) (b : Int) (b_r : -2147483648 ≤ b ∧ b < 2147483648) (e : rI h (t + 5) 2 = c) (cb : 0 ≤ c ∧ c ≤ 2) (kq : ∀ v : Int, (((b = -1 ∧ c < 2) ∧ v = c) ∨ ((0 ≤ b ∧ b < c) ∧ v = b) ∨ (¬ (b = -1 ∧ c < 2) ∧ ¬ (0 ≤ b ∧ b < c) ∧ v = -2)) → Q (some (.int (zI v))) h) : mCal TB0 ad (dd + 1) M_X8_target [.ref t, .int (zI 2), .int (zI b)] h 0 0 Q := by
  refine ⟨Nat.le_of_ble_eq_true rfl, ?_⟩
  show mEv TB0 ad M_X8_target (dd + 1) (0, 0) (mCal TB0 ad (dd + 0)) (fun v h' z => z.1 = 0 ∧ Q v h') 0 [some (.ref t), some (.int (zI 2)), some (.int (zI b))] [] h (0, 0)
  refine e_iload_n dX8_target_0 rfl ?_
  refine z_if_lt 9 dX8_target_1 rfl ⟨by omega, by omega⟩ (fun c1 => ?_) (fun c1 => ?_)
  · exfalso; omega
  · skip
    refine e_iload_n dX8_target_4 rfl ?_
    refine z_iconst (3) dX8_target_5 rfl ?_
    refine z_icmp_lt 12 dX8_target_6 rfl ⟨by omega, by omega⟩ ⟨by omega, by omega⟩ (fun c2 => ?_) (fun c2 => ?_)
    · skip
      refine e_iload_n dX8_target_12 rfl ?_
      refine z_iconst (-1) dX8_target_13 rfl ?_
      refine z_icmp_ne 39 dX8_target_14 rfl ⟨by omega, by omega⟩ ⟨by omega, by omega⟩ (fun c3 => ?_) (fun c3 => ?_)
      · skip
        refine e_iload_n dX8_target_39 rfl ?_
        refine z_if_lt 57 dX8_target_40 rfl ⟨by omega, by omega⟩ (fun c4 => ?_) (fun c4 => ?_)
        · skip
          refine z_bipush (-2) dX8_target_57 rfl ?_
          refine z_iret dX8_target_59 rfl ⟨rfl, ?_⟩
          refine kq _ ?_
          omega
        · skip
          refine e_iload_n dX8_target_43 rfl ?_
          refine e_aload_n dX8_target_44 rfl ?_
          refine e_get (.ref (t + 5)) dX8_target_45 tf_8_33 (congrArg Prod.fst (td_s0 hk)) (congrArg va_rf (td_r0_4 hk)) ?_
          refine e_iload_n dX8_target_48 rfl ?_
          refine z_ild c dX8_target_49 (td_s5 hk) (by decide) (by omega) (by omega) e ?_
          refine z_icmp_ge 57 dX8_target_50 rfl ⟨by omega, by omega⟩ ⟨by omega, by omega⟩ (fun c5 => ?_) (fun c5 => ?_)
          · skip
            refine z_bipush (-2) dX8_target_57 rfl ?_
            refine z_iret dX8_target_59 rfl ⟨rfl, ?_⟩
            refine kq _ ?_
            omega
          · skip
            refine e_iload_n dX8_target_53 rfl ?_
            refine e_goto 59 dX8_target_54 rfl ?_
            refine z_iret dX8_target_59 rfl ⟨rfl, ?_⟩
            refine kq _ ?_
            omega
      · skip
        refine e_aload_n dX8_target_17 rfl ?_
        refine e_get (.ref (t + 5)) dX8_target_18 tf_8_33 (congrArg Prod.fst (td_s0 hk)) (congrArg va_rf (td_r0_4 hk)) ?_
        refine e_iload_n dX8_target_21 rfl ?_
        refine z_ild c dX8_target_22 (td_s5 hk) (by decide) (by omega) (by omega) e ?_
        refine z_iconst (2) dX8_target_23 rfl ?_
        refine z_icmp_ge 36 dX8_target_24 rfl ⟨by omega, by omega⟩ ⟨by omega, by omega⟩ (fun c6 => ?_) (fun c6 => ?_)
        · skip
          refine z_bipush (-2) dX8_target_36 rfl ?_
          refine z_iret dX8_target_38 rfl ⟨rfl, ?_⟩
          refine kq _ ?_
          omega
        · skip
          refine e_aload_n dX8_target_27 rfl ?_
          refine e_get (.ref (t + 5)) dX8_target_28 tf_8_33 (congrArg Prod.fst (td_s0 hk)) (congrArg va_rf (td_r0_4 hk)) ?_
          refine e_iload_n dX8_target_31 rfl ?_
          refine z_ild c dX8_target_32 (td_s5 hk) (by decide) (by omega) (by omega) e ?_
          refine e_goto 38 dX8_target_33 rfl ?_
          refine z_iret dX8_target_38 rfl ⟨rfl, ?_⟩
          refine kq _ ?_
          omega
    · exfalso; omega
set_option maxHeartbeats 400000 in
theorem zp_X8_target_x {ad : mA} {dd : Nat} {h : mH} {Q : mQ} {t : Nat}  (hk : tdk h t)  (a : Int) (a_r : -2147483648 ≤ a ∧ a < 2147483648) (b : Int) (b_r : -2147483648 ≤ b ∧ b < 2147483648) (pa : ¬ (0 ≤ a ∧ a ≤ 2)) (kq : Q (some (.int (zI (-2)))) h) : mCal TB0 ad (dd + 1) M_X8_target [.ref t, .int (zI a), .int (zI b)] h 0 0 Q := by
  refine ⟨Nat.le_of_ble_eq_true rfl, ?_⟩
  show mEv TB0 ad M_X8_target (dd + 1) (0, 0) (mCal TB0 ad (dd + 0)) (fun v h' z => z.1 = 0 ∧ Q v h') 0 [some (.ref t), some (.int (zI a)), some (.int (zI b))] [] h (0, 0)
  refine e_iload_n dX8_target_0 rfl ?_
  refine z_if_lt 9 dX8_target_1 rfl ⟨by omega, by omega⟩ (fun c1 => ?_) (fun c1 => ?_)
  · skip
    refine z_bipush (-2) dX8_target_9 rfl ?_
    refine z_iret dX8_target_11 rfl ⟨rfl, ?_⟩
    refine z_q kq ?_
    rfl
  · skip
    refine e_iload_n dX8_target_4 rfl ?_
    refine z_iconst (3) dX8_target_5 rfl ?_
    refine z_icmp_lt 12 dX8_target_6 rfl ⟨by omega, by omega⟩ ⟨by omega, by omega⟩ (fun c2 => ?_) (fun c2 => ?_)
    · exfalso; omega
    · skip
      refine z_bipush (-2) dX8_target_9 rfl ?_
      refine z_iret dX8_target_11 rfl ⟨rfl, ?_⟩
      refine z_q kq ?_
      rfl
set_option maxHeartbeats 400000 in
theorem zp_X8_keep_0 {ad : mA} {dd : Nat} {h : mH} {Q : mQ} {t y : Nat} {C : Int → Int} (hk : tdk h t) (hk1 : rdk h y) (HG : rwF h (y + 1) C) (c : Int) (i : Int) (i_r : -2147483648 ≤ i ∧ i < 2147483648) (w : wfF C) (e : rI h (t + 5) 0 = c) (cb : 0 ≤ c ∧ c ≤ 2) (i0 : 0 ≤ i ∧ i < 2) (pd : t + 54 ≤ y) (kq : ∀ h1, frm (fun a k => (fAt t i ≤ a ∧ a < fAt t i + 16) ∨ (a = t + 5 ∧ k = 0)) h h1 → (isF h1 (fAt t i) C) → (rI h1 (t + 5) 0 = max c (i + 1)) → Q none h1) : mCal TB0 ad (dd + 3) M_X8_keep [.ref t, .int (zI 0), .int (zI i), .ref y] h 0 0 Q := by
  refine ⟨Nat.le_of_ble_eq_true rfl, ?_⟩
  show mEv TB0 ad M_X8_keep (dd + 3) (0, 0) (mCal TB0 ad (dd + 2)) (fun v h' z => z.1 = 0 ∧ Q v h') 0 [some (.ref t), some (.int (zI 0)), some (.int (zI i)), some (.ref y)] [] h (0, 0)
  have FR0 : frm (fun a k => (fAt t i ≤ a ∧ a < fAt t i + 16) ∨ (a = t + 5 ∧ k = 0)) h h := frm_0 h
  refine e_iload_n dX8_keep_0 rfl ?_
  refine z_if_lt 18 dX8_keep_1 rfl ⟨by omega, by omega⟩ (fun c1 => ?_) (fun c1 => ?_)
  · exfalso; omega
  · skip
    refine e_iload_n dX8_keep_4 rfl ?_
    refine z_iconst (3) dX8_keep_5 rfl ?_
    refine z_icmp_ge 18 dX8_keep_6 rfl ⟨by omega, by omega⟩ ⟨by omega, by omega⟩ (fun c2 => ?_) (fun c2 => ?_)
    · exfalso; omega
    · skip
      refine e_iload_n dX8_keep_9 rfl ?_
      refine z_if_lt 18 dX8_keep_10 rfl ⟨by omega, by omega⟩ (fun c3 => ?_) (fun c3 => ?_)
      · exfalso; omega
      · skip
        refine e_iload_n dX8_keep_13 rfl ?_
        refine z_iconst (2) dX8_keep_14 rfl ?_
        refine z_icmp_lt 19 dX8_keep_15 rfl ⟨by omega, by omega⟩ ⟨by omega, by omega⟩ (fun c4 => ?_) (fun c4 => ?_)
        · skip
          refine e_iload_n dX8_keep_19 rfl ?_
          refine z_if_ne 39 dX8_keep_20 rfl ⟨by omega, by omega⟩ (fun c5 => ?_) (fun c5 => ?_)
          · exfalso; omega
          · skip
            refine e_aload_n dX8_keep_23 rfl ?_
            refine e_get (.ref (t + 2)) dX8_keep_24 tf_8_17 (congrArg Prod.fst (td_s0 hk)) (congrArg va_rf (td_r0_1 hk)) ?_
            refine e_iload_n dX8_keep_27 rfl ?_
            have k6 := fAt_k hk i
            have ab := fAt_b t i
            refine z_ald (.ref (fAt t i)) dX8_keep_28 (td_s2 hk) (by decide) (by decide) (by decide) (by omega) (by omega) (congrArg va_rf (fAt_r hk (by omega) (by omega))) ?_
            refine e_aload_n dX8_keep_29 rfl ?_
            refine e_get (.ref (y + 1)) dX8_keep_30 tf_8_50 (congrArg Prod.fst (rd_s0 hk1)) (congrArg va_rf (rd_r0_0 hk1)) ?_
            refine e_callV [.ref _] dX8_keep_33 tm_8_56 rfl (Nat.le_of_ble_eq_true rfl) (congrArg Prod.fst (fg_s0 k6)) (Nat.le_of_ble_eq_true rfl) (Nat.le_refl _) (Nat.le_refl _) rfl (zp_X2_copyFrom k6 (rd_fg1 hk1) (by omega) (fun  h7 f8 p9 => ?_))
            have k10 := lk_q (frm_s f8) hk
            have k11 := lk_q (frm_s f8) hk1
            have k12 := lk_q (frm_s f8) k6
            have FR13 := frm_t FR0 (frm_m (S' := (fun a k => (fAt t i ≤ a ∧ a < fAt t i + 16) ∨ (a = t + 5 ∧ k = 0))) f8 (fun a k q => by omega))
            have IS : isF h7 (fAt t i) C := is_F w HG p9
            refine e_goto 73 dX8_keep_36 rfl ?_
            refine e_aload_n dX8_keep_73 rfl ?_
            refine e_get (.ref (t + 5)) dX8_keep_74 tf_8_33 (congrArg Prod.fst (td_s0 k10)) (congrArg va_rf (td_r0_4 k10)) ?_
            refine e_iload_n dX8_keep_77 rfl ?_
            refine e_aload_n dX8_keep_78 rfl ?_
            refine e_get (.ref (t + 5)) dX8_keep_79 tf_8_33 (congrArg Prod.fst (td_s0 k10)) (congrArg va_rf (td_r0_4 k10)) ?_
            refine e_iload_n dX8_keep_82 rfl ?_
            refine z_ild c dX8_keep_83 (td_s5 k10) (by decide) (by omega) (by omega) (((frm_r f8 (by omega))).trans e) ?_
            refine e_iload_n dX8_keep_84 rfl ?_
            refine z_iconst (1) dX8_keep_85 rfl ?_
            refine z_iadd dX8_keep_86 ?_
            refine z_mmax dX8_keep_87 tm_8_73 (Nat.le_of_ble_eq_true rfl) ⟨by omega, by omega⟩ ⟨by omega, by omega⟩ ?_
            refine z_ist dX8_keep_90 (td_s5 k10) (by decide) (by omega) (by omega) (fun h14 e15 => ?_)
            have f16 := frm_1 e15
            have k17 := lk_q (frm_s f16) k10
            have k18 := lk_q (frm_s f16) k11
            have k19 := lk_q (frm_s f16) k12
            have H20 := isF_c f16 (fun a k q1 q2 => by omega) IS
            have FR21 := frm_t FR13 (frm_m (S' := (fun a k => (fAt t i ≤ a ∧ a < fAt t i + 16) ∨ (a = t + 5 ∧ k = 0))) f16 (fun a k q => by omega))
            refine e_vret dX8_keep_91 rfl ⟨rfl, ?_⟩
            exact kq _ FR21 H20 (rI_eq e15 ⟨by omega, by omega⟩)
        · exfalso; omega
set_option maxHeartbeats 400000 in
theorem zp_X8_keep_1 {ad : mA} {dd : Nat} {h : mH} {Q : mQ} {t y : Nat} {C : Int → Int} (hk : tdk h t) (hk1 : rdk h y) (HG : rwY h (y + 17) C) (c : Int) (i : Int) (i_r : -2147483648 ≤ i ∧ i < 2147483648) (w : wfY C) (e : rI h (t + 5) 1 = c) (cb : 0 ≤ c ∧ c ≤ 2) (i0 : 0 ≤ i ∧ i < 2) (pd : t + 54 ≤ y) (kq : ∀ h1, frm (fun a k => (yAt t i ≤ a ∧ a < yAt t i + 4) ∨ (a = t + 5 ∧ k = 1)) h h1 → (isY h1 (yAt t i) C) → (rI h1 (t + 5) 1 = max c (i + 1)) → Q none h1) : mCal TB0 ad (dd + 3) M_X8_keep [.ref t, .int (zI 1), .int (zI i), .ref y] h 0 0 Q := by
  refine ⟨Nat.le_of_ble_eq_true rfl, ?_⟩
  show mEv TB0 ad M_X8_keep (dd + 3) (0, 0) (mCal TB0 ad (dd + 2)) (fun v h' z => z.1 = 0 ∧ Q v h') 0 [some (.ref t), some (.int (zI 1)), some (.int (zI i)), some (.ref y)] [] h (0, 0)
  have FR0 : frm (fun a k => (yAt t i ≤ a ∧ a < yAt t i + 4) ∨ (a = t + 5 ∧ k = 1)) h h := frm_0 h
  refine e_iload_n dX8_keep_0 rfl ?_
  refine z_if_lt 18 dX8_keep_1 rfl ⟨by omega, by omega⟩ (fun c1 => ?_) (fun c1 => ?_)
  · exfalso; omega
  · skip
    refine e_iload_n dX8_keep_4 rfl ?_
    refine z_iconst (3) dX8_keep_5 rfl ?_
    refine z_icmp_ge 18 dX8_keep_6 rfl ⟨by omega, by omega⟩ ⟨by omega, by omega⟩ (fun c2 => ?_) (fun c2 => ?_)
    · exfalso; omega
    · skip
      refine e_iload_n dX8_keep_9 rfl ?_
      refine z_if_lt 18 dX8_keep_10 rfl ⟨by omega, by omega⟩ (fun c3 => ?_) (fun c3 => ?_)
      · exfalso; omega
      · skip
        refine e_iload_n dX8_keep_13 rfl ?_
        refine z_iconst (2) dX8_keep_14 rfl ?_
        refine z_icmp_lt 19 dX8_keep_15 rfl ⟨by omega, by omega⟩ ⟨by omega, by omega⟩ (fun c4 => ?_) (fun c4 => ?_)
        · skip
          refine e_iload_n dX8_keep_19 rfl ?_
          refine z_if_ne 39 dX8_keep_20 rfl ⟨by omega, by omega⟩ (fun c5 => ?_) (fun c5 => ?_)
          · skip
            refine e_iload_n dX8_keep_39 rfl ?_
            refine z_iconst (1) dX8_keep_40 rfl ?_
            refine z_icmp_ne 60 dX8_keep_41 rfl ⟨by omega, by omega⟩ ⟨by omega, by omega⟩ (fun c6 => ?_) (fun c6 => ?_)
            · exfalso; omega
            · skip
              refine e_aload_n dX8_keep_44 rfl ?_
              refine e_get (.ref (t + 3)) dX8_keep_45 tf_8_23 (congrArg Prod.fst (td_s0 hk)) (congrArg va_rf (td_r0_2 hk)) ?_
              refine e_iload_n dX8_keep_48 rfl ?_
              have k7 := yAt_k hk i
              have ab := yAt_b t i
              refine z_ald (.ref (yAt t i)) dX8_keep_49 (td_s3 hk) (by decide) (by decide) (by decide) (by omega) (by omega) (congrArg va_rf (yAt_r hk (by omega) (by omega))) ?_
              refine e_aload_n dX8_keep_50 rfl ?_
              refine e_get (.ref (y + 17)) dX8_keep_51 tf_8_60 (congrArg Prod.fst (rd_s0 hk1)) (congrArg va_rf (rd_r0_1 hk1)) ?_
              refine e_callV [.ref _] dX8_keep_54 tm_8_64 rfl (Nat.le_of_ble_eq_true rfl) (congrArg Prod.fst (yr_s0 k7)) (Nat.le_of_ble_eq_true rfl) (Nat.le_refl _) (Nat.le_refl _) rfl (zp_X10_copyFrom k7 (rd_yr17 hk1) (by omega) (fun  h8 f9 p10 => ?_))
              have k11 := lk_q (frm_s f9) hk
              have k12 := lk_q (frm_s f9) hk1
              have k13 := lk_q (frm_s f9) k7
              have FR14 := frm_t FR0 (frm_m (S' := (fun a k => (yAt t i ≤ a ∧ a < yAt t i + 4) ∨ (a = t + 5 ∧ k = 1))) f9 (fun a k q => by omega))
              have IS : isY h8 (yAt t i) C := is_Y w HG p10
              refine e_goto 73 dX8_keep_57 rfl ?_
              refine e_aload_n dX8_keep_73 rfl ?_
              refine e_get (.ref (t + 5)) dX8_keep_74 tf_8_33 (congrArg Prod.fst (td_s0 k11)) (congrArg va_rf (td_r0_4 k11)) ?_
              refine e_iload_n dX8_keep_77 rfl ?_
              refine e_aload_n dX8_keep_78 rfl ?_
              refine e_get (.ref (t + 5)) dX8_keep_79 tf_8_33 (congrArg Prod.fst (td_s0 k11)) (congrArg va_rf (td_r0_4 k11)) ?_
              refine e_iload_n dX8_keep_82 rfl ?_
              refine z_ild c dX8_keep_83 (td_s5 k11) (by decide) (by omega) (by omega) (((frm_r f9 (by omega))).trans e) ?_
              refine e_iload_n dX8_keep_84 rfl ?_
              refine z_iconst (1) dX8_keep_85 rfl ?_
              refine z_iadd dX8_keep_86 ?_
              refine z_mmax dX8_keep_87 tm_8_73 (Nat.le_of_ble_eq_true rfl) ⟨by omega, by omega⟩ ⟨by omega, by omega⟩ ?_
              refine z_ist dX8_keep_90 (td_s5 k11) (by decide) (by omega) (by omega) (fun h15 e16 => ?_)
              have f17 := frm_1 e16
              have k18 := lk_q (frm_s f17) k11
              have k19 := lk_q (frm_s f17) k12
              have k20 := lk_q (frm_s f17) k13
              have H21 := isY_c f17 (fun a k q1 q2 => by omega) IS
              have FR22 := frm_t FR14 (frm_m (S' := (fun a k => (yAt t i ≤ a ∧ a < yAt t i + 4) ∨ (a = t + 5 ∧ k = 1))) f17 (fun a k q => by omega))
              refine e_vret dX8_keep_91 rfl ⟨rfl, ?_⟩
              exact kq _ FR22 H21 (rI_eq e16 ⟨by omega, by omega⟩)
          · exfalso; omega
        · exfalso; omega
set_option maxHeartbeats 400000 in
theorem zp_X8_keep_2 {ad : mA} {dd : Nat} {h : mH} {Q : mQ} {t y : Nat} {C : Int → Int} (hk : tdk h t) (hk1 : rdk h y) (HG : rwY h (y + 21) C) (c : Int) (i : Int) (i_r : -2147483648 ≤ i ∧ i < 2147483648) (w : wfK C) (e : rI h (t + 5) 2 = c) (cb : 0 ≤ c ∧ c ≤ 2) (i0 : 0 ≤ i ∧ i < 2) (pd : t + 54 ≤ y) (kq : ∀ h1, frm (fun a k => (kAt t i ≤ a ∧ a < kAt t i + 4) ∨ (a = t + 5 ∧ k = 2)) h h1 → (isK h1 (kAt t i) C) → (rI h1 (t + 5) 2 = max c (i + 1)) → Q none h1) : mCal TB0 ad (dd + 3) M_X8_keep [.ref t, .int (zI 2), .int (zI i), .ref y] h 0 0 Q := by
  refine ⟨Nat.le_of_ble_eq_true rfl, ?_⟩
  show mEv TB0 ad M_X8_keep (dd + 3) (0, 0) (mCal TB0 ad (dd + 2)) (fun v h' z => z.1 = 0 ∧ Q v h') 0 [some (.ref t), some (.int (zI 2)), some (.int (zI i)), some (.ref y)] [] h (0, 0)
  have FR0 : frm (fun a k => (kAt t i ≤ a ∧ a < kAt t i + 4) ∨ (a = t + 5 ∧ k = 2)) h h := frm_0 h
  refine e_iload_n dX8_keep_0 rfl ?_
  refine z_if_lt 18 dX8_keep_1 rfl ⟨by omega, by omega⟩ (fun c1 => ?_) (fun c1 => ?_)
  · exfalso; omega
  · skip
    refine e_iload_n dX8_keep_4 rfl ?_
    refine z_iconst (3) dX8_keep_5 rfl ?_
    refine z_icmp_ge 18 dX8_keep_6 rfl ⟨by omega, by omega⟩ ⟨by omega, by omega⟩ (fun c2 => ?_) (fun c2 => ?_)
    · exfalso; omega
    · skip
      refine e_iload_n dX8_keep_9 rfl ?_
      refine z_if_lt 18 dX8_keep_10 rfl ⟨by omega, by omega⟩ (fun c3 => ?_) (fun c3 => ?_)
      · exfalso; omega
      · skip
        refine e_iload_n dX8_keep_13 rfl ?_
        refine z_iconst (2) dX8_keep_14 rfl ?_
        refine z_icmp_lt 19 dX8_keep_15 rfl ⟨by omega, by omega⟩ ⟨by omega, by omega⟩ (fun c4 => ?_) (fun c4 => ?_)
        · skip
          refine e_iload_n dX8_keep_19 rfl ?_
          refine z_if_ne 39 dX8_keep_20 rfl ⟨by omega, by omega⟩ (fun c5 => ?_) (fun c5 => ?_)
          · skip
            refine e_iload_n dX8_keep_39 rfl ?_
            refine z_iconst (1) dX8_keep_40 rfl ?_
            refine z_icmp_ne 60 dX8_keep_41 rfl ⟨by omega, by omega⟩ ⟨by omega, by omega⟩ (fun c6 => ?_) (fun c6 => ?_)
            · skip
              refine e_aload_n dX8_keep_60 rfl ?_
              refine e_get (.ref (t + 4)) dX8_keep_61 tf_8_29 (congrArg Prod.fst (td_s0 hk)) (congrArg va_rf (td_r0_3 hk)) ?_
              refine e_iload_n dX8_keep_64 rfl ?_
              have k7 := kAt_k hk i
              have ab := kAt_b t i
              refine z_ald (.ref (kAt t i)) dX8_keep_65 (td_s4 hk) (by decide) (by decide) (by decide) (by omega) (by omega) (congrArg va_rf (kAt_r hk (by omega) (by omega))) ?_
              refine e_aload_n dX8_keep_66 rfl ?_
              refine e_get (.ref (y + 21)) dX8_keep_67 tf_8_67 (congrArg Prod.fst (rd_s0 hk1)) (congrArg va_rf (rd_r0_2 hk1)) ?_
              refine e_callV [.ref _] dX8_keep_70 tm_8_70 rfl (Nat.le_of_ble_eq_true rfl) (congrArg Prod.fst (cu_s0 k7)) (Nat.le_of_ble_eq_true rfl) (Nat.le_refl _) (Nat.le_refl _) rfl (zp_X1_copyFrom k7 (rd_cu21 hk1) (by omega) (fun  h8 f9 p10 => ?_))
              have k11 := lk_q (frm_s f9) hk
              have k12 := lk_q (frm_s f9) hk1
              have k13 := lk_q (frm_s f9) k7
              have FR14 := frm_t FR0 (frm_m (S' := (fun a k => (kAt t i ≤ a ∧ a < kAt t i + 4) ∨ (a = t + 5 ∧ k = 2))) f9 (fun a k q => by omega))
              have IS : isK h8 (kAt t i) C := is_K w HG p10
              refine e_aload_n dX8_keep_73 rfl ?_
              refine e_get (.ref (t + 5)) dX8_keep_74 tf_8_33 (congrArg Prod.fst (td_s0 k11)) (congrArg va_rf (td_r0_4 k11)) ?_
              refine e_iload_n dX8_keep_77 rfl ?_
              refine e_aload_n dX8_keep_78 rfl ?_
              refine e_get (.ref (t + 5)) dX8_keep_79 tf_8_33 (congrArg Prod.fst (td_s0 k11)) (congrArg va_rf (td_r0_4 k11)) ?_
              refine e_iload_n dX8_keep_82 rfl ?_
              refine z_ild c dX8_keep_83 (td_s5 k11) (by decide) (by omega) (by omega) (((frm_r f9 (by omega))).trans e) ?_
              refine e_iload_n dX8_keep_84 rfl ?_
              refine z_iconst (1) dX8_keep_85 rfl ?_
              refine z_iadd dX8_keep_86 ?_
              refine z_mmax dX8_keep_87 tm_8_73 (Nat.le_of_ble_eq_true rfl) ⟨by omega, by omega⟩ ⟨by omega, by omega⟩ ?_
              refine z_ist dX8_keep_90 (td_s5 k11) (by decide) (by omega) (by omega) (fun h15 e16 => ?_)
              have f17 := frm_1 e16
              have k18 := lk_q (frm_s f17) k11
              have k19 := lk_q (frm_s f17) k12
              have k20 := lk_q (frm_s f17) k13
              have H21 := isK_c f17 (fun a k q1 q2 => by omega) IS
              have FR22 := frm_t FR14 (frm_m (S' := (fun a k => (kAt t i ≤ a ∧ a < kAt t i + 4) ∨ (a = t + 5 ∧ k = 2))) f17 (fun a k q => by omega))
              refine e_vret dX8_keep_91 rfl ⟨rfl, ?_⟩
              exact kq _ FR22 H21 (rI_eq e16 ⟨by omega, by omega⟩)
            · exfalso; omega
          · exfalso; omega
        · exfalso; omega
