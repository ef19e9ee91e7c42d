/-! ROWS as codes -/
theorem dX12_isRow_0 : decode cX12_isRow 0 = .ok (.iload_n 1, 1) := by decide +kernel
theorem dX12_isRow_1 : decode cX12_isRow 1 = .ok (.istore_n 2, 1) := by decide +kernel
theorem dX12_isRow_2 : decode cX12_isRow 2 = .ok (.iconst 0, 1) := by decide +kernel
theorem dX12_isRow_3 : decode cX12_isRow 3 = .ok (.istore_n 3, 1) := by decide +kernel
theorem dX12_isRow_4 : decode cX12_isRow 4 = .ok (.iconst 5, 1) := by decide +kernel
theorem dX12_isRow_5 : decode cX12_isRow 5 = .ok (.istore 4, 2) := by decide +kernel
theorem dX12_isRow_7 : decode cX12_isRow 7 = .ok (.iload 4, 2) := by decide +kernel
theorem dX12_isRow_9 : decode cX12_isRow 9 = .ok (.ifCond .lt 109, 3) := by decide +kernel
theorem dX12_isRow_12 : decode cX12_isRow 12 = .ok (.aload_n 0, 1) := by decide +kernel
theorem dX12_isRow_13 : decode cX12_isRow 13 = .ok (.getfield 56, 3) := by decide +kernel
theorem dX12_isRow_16 : decode cX12_isRow 16 = .ok (.iload 4, 2) := by decide +kernel
theorem dX12_isRow_18 : decode cX12_isRow 18 = .ok (.iload_n 2, 1) := by decide +kernel
theorem dX12_isRow_19 : decode cX12_isRow 19 = .ok (.bipush 7, 2) := by decide +kernel
theorem dX12_isRow_21 : decode cX12_isRow 21 = .ok (.irem, 1) := by decide +kernel
theorem dX12_isRow_22 : decode cX12_isRow 22 = .ok (.iastore, 1) := by decide +kernel
theorem dX12_isRow_23 : decode cX12_isRow 23 = .ok (.iload_n 2, 1) := by decide +kernel
theorem dX12_isRow_24 : decode cX12_isRow 24 = .ok (.bipush 7, 2) := by decide +kernel
theorem dX12_isRow_26 : decode cX12_isRow 26 = .ok (.idiv, 1) := by decide +kernel
theorem dX12_isRow_27 : decode cX12_isRow 27 = .ok (.istore_n 2, 1) := by decide +kernel
theorem dX12_isRow_28 : decode cX12_isRow 28 = .ok (.aload_n 0, 1) := by decide +kernel
theorem dX12_isRow_29 : decode cX12_isRow 29 = .ok (.getfield 56, 3) := by decide +kernel
theorem dX12_isRow_32 : decode cX12_isRow 32 = .ok (.iload 4, 2) := by decide +kernel
theorem dX12_isRow_34 : decode cX12_isRow 34 = .ok (.iaload, 1) := by decide +kernel
theorem dX12_isRow_35 : decode cX12_isRow 35 = .ok (.bipush 6, 2) := by decide +kernel
theorem dX12_isRow_37 : decode cX12_isRow 37 = .ok (.if_icmp .ne 7, 3) := by decide +kernel
theorem dX12_isRow_40 : decode cX12_isRow 40 = .ok (.iconst 1, 1) := by decide +kernel
theorem dX12_isRow_41 : decode cX12_isRow 41 = .ok (.goto 4, 3) := by decide +kernel
theorem dX12_isRow_44 : decode cX12_isRow 44 = .ok (.iconst 0, 1) := by decide +kernel
theorem dX12_isRow_45 : decode cX12_isRow 45 = .ok (.istore 5, 2) := by decide +kernel
theorem dX12_isRow_47 : decode cX12_isRow 47 = .ok (.iload 5, 2) := by decide +kernel
theorem dX12_isRow_49 : decode cX12_isRow 49 = .ok (.ifCond .ne 42, 3) := by decide +kernel
theorem dX12_isRow_52 : decode cX12_isRow 52 = .ok (.iload 4, 2) := by decide +kernel
theorem dX12_isRow_54 : decode cX12_isRow 54 = .ok (.aload_n 0, 1) := by decide +kernel
theorem dX12_isRow_55 : decode cX12_isRow 55 = .ok (.getfield 271, 3) := by decide +kernel
theorem dX12_isRow_58 : decode cX12_isRow 58 = .ok (.if_icmp .ge 31, 3) := by decide +kernel
theorem dX12_isRow_61 : decode cX12_isRow 61 = .ok (.aload_n 0, 1) := by decide +kernel
theorem dX12_isRow_62 : decode cX12_isRow 62 = .ok (.getfield 56, 3) := by decide +kernel
theorem dX12_isRow_65 : decode cX12_isRow 65 = .ok (.iload 4, 2) := by decide +kernel
theorem dX12_isRow_67 : decode cX12_isRow 67 = .ok (.iaload, 1) := by decide +kernel
theorem dX12_isRow_68 : decode cX12_isRow 68 = .ok (.aload_n 0, 1) := by decide +kernel
theorem dX12_isRow_69 : decode cX12_isRow 69 = .ok (.getfield 274, 3) := by decide +kernel
theorem dX12_isRow_72 : decode cX12_isRow 72 = .ok (.if_icmp .ge 17, 3) := by decide +kernel
theorem dX12_isRow_75 : decode cX12_isRow 75 = .ok (.iload_n 3, 1) := by decide +kernel
theorem dX12_isRow_76 : decode cX12_isRow 76 = .ok (.aload_n 0, 1) := by decide +kernel
theorem dX12_isRow_77 : decode cX12_isRow 77 = .ok (.getfield 56, 3) := by decide +kernel
theorem dX12_isRow_80 : decode cX12_isRow 80 = .ok (.iload 4, 2) := by decide +kernel
theorem dX12_isRow_82 : decode cX12_isRow 82 = .ok (.iaload, 1) := by decide +kernel
theorem dX12_isRow_83 : decode cX12_isRow 83 = .ok (.invokestatic 107, 3) := by decide +kernel
theorem dX12_isRow_86 : decode cX12_isRow 86 = .ok (.ifCond .eq 5, 3) := by decide +kernel
theorem dX12_isRow_89 : decode cX12_isRow 89 = .ok (.iconst 0, 1) := by decide +kernel
theorem dX12_isRow_90 : decode cX12_isRow 90 = .ok (.ireturn, 1) := by decide +kernel
theorem dX12_isRow_91 : decode cX12_isRow 91 = .ok (.iload_n 3, 1) := by decide +kernel
theorem dX12_isRow_92 : decode cX12_isRow 92 = .ok (.iload 5, 2) := by decide +kernel
theorem dX12_isRow_94 : decode cX12_isRow 94 = .ok (.ifCond .eq 7, 3) := by decide +kernel
theorem dX12_isRow_97 : decode cX12_isRow 97 = .ok (.iconst 0, 1) := by decide +kernel
theorem dX12_isRow_98 : decode cX12_isRow 98 = .ok (.goto 12, 3) := by decide +kernel
theorem dX12_isRow_101 : decode cX12_isRow 101 = .ok (.iconst 1, 1) := by decide +kernel
theorem dX12_isRow_102 : decode cX12_isRow 102 = .ok (.aload_n 0, 1) := by decide +kernel
theorem dX12_isRow_103 : decode cX12_isRow 103 = .ok (.getfield 56, 3) := by decide +kernel
theorem dX12_isRow_106 : decode cX12_isRow 106 = .ok (.iload 4, 2) := by decide +kernel
theorem dX12_isRow_108 : decode cX12_isRow 108 = .ok (.iaload, 1) := by decide +kernel
theorem dX12_isRow_109 : decode cX12_isRow 109 = .ok (.ishl, 1) := by decide +kernel
theorem dX12_isRow_110 : decode cX12_isRow 110 = .ok (.ior, 1) := by decide +kernel
theorem dX12_isRow_111 : decode cX12_isRow 111 = .ok (.istore_n 3, 1) := by decide +kernel
theorem dX12_isRow_112 : decode cX12_isRow 112 = .ok (.iinc 4 (-1), 3) := by decide +kernel
theorem dX12_isRow_115 : decode cX12_isRow 115 = .ok (.goto (-108), 3) := by decide +kernel
theorem dX12_isRow_118 : decode cX12_isRow 118 = .ok (.iconst 1, 1) := by decide +kernel
theorem dX12_isRow_119 : decode cX12_isRow 119 = .ok (.ireturn, 1) := by decide +kernel
theorem dX12_worthBy_0 : decode cX12_worthBy 0 = .ok (.iload_n 1, 1) := by decide +kernel
theorem dX12_worthBy_1 : decode cX12_worthBy 1 = .ok (.iconst 3, 1) := by decide +kernel
theorem dX12_worthBy_2 : decode cX12_worthBy 2 = .ok (.if_icmp .ne 22, 3) := by decide +kernel
theorem dX12_worthBy_5 : decode cX12_worthBy 5 = .ok (.aload_n 0, 1) := by decide +kernel
theorem dX12_worthBy_6 : decode cX12_worthBy 6 = .ok (.invokevirtual 403, 3) := by decide +kernel
theorem dX12_worthBy_9 : decode cX12_worthBy 9 = .ok (.ifCond .le 9, 3) := by decide +kernel
theorem dX12_worthBy_12 : decode cX12_worthBy 12 = .ok (.ldc_w 406, 3) := by decide +kernel
theorem dX12_worthBy_15 : decode cX12_worthBy 15 = .ok (.goto 8, 3) := by decide +kernel
theorem dX12_worthBy_18 : decode cX12_worthBy 18 = .ok (.aload_n 0, 1) := by decide +kernel
theorem dX12_worthBy_19 : decode cX12_worthBy 19 = .ok (.invokevirtual 407, 3) := by decide +kernel
theorem dX12_worthBy_22 : decode cX12_worthBy 22 = .ok (.ineg, 1) := by decide +kernel
theorem dX12_worthBy_23 : decode cX12_worthBy 23 = .ok (.ireturn, 1) := by decide +kernel
theorem dX12_worthBy_24 : decode cX12_worthBy 24 = .ok (.iload_n 1, 1) := by decide +kernel
theorem dX12_worthBy_25 : decode cX12_worthBy 25 = .ok (.iconst 4, 1) := by decide +kernel
theorem dX12_worthBy_26 : decode cX12_worthBy 26 = .ok (.if_icmp .ne 10, 3) := by decide +kernel
theorem dX12_worthBy_29 : decode cX12_worthBy 29 = .ok (.aload_n 0, 1) := by decide +kernel
theorem dX12_worthBy_30 : decode cX12_worthBy 30 = .ok (.invokevirtual 410, 3) := by decide +kernel
theorem dX12_worthBy_33 : decode cX12_worthBy 33 = .ok (.goto 31, 3) := by decide +kernel
theorem dX12_worthBy_36 : decode cX12_worthBy 36 = .ok (.aload_n 0, 1) := by decide +kernel
theorem dX12_worthBy_37 : decode cX12_worthBy 37 = .ok (.invokevirtual 413, 3) := by decide +kernel
theorem dX12_worthBy_40 : decode cX12_worthBy 40 = .ok (.aload_n 0, 1) := by decide +kernel
theorem dX12_worthBy_41 : decode cX12_worthBy 41 = .ok (.getfield 271, 3) := by decide +kernel
theorem dX12_worthBy_44 : decode cX12_worthBy 44 = .ok (.aload_n 0, 1) := by decide +kernel
theorem dX12_worthBy_45 : decode cX12_worthBy 45 = .ok (.getfield 274, 3) := by decide +kernel
theorem dX12_worthBy_48 : decode cX12_worthBy 48 = .ok (.invokestatic 340, 3) := by decide +kernel
theorem dX12_worthBy_51 : decode cX12_worthBy 51 = .ok (.if_icmp .ge 9, 3) := by decide +kernel
theorem dX12_worthBy_54 : decode cX12_worthBy 54 = .ok (.ldc_w 406, 3) := by decide +kernel
theorem dX12_worthBy_57 : decode cX12_worthBy 57 = .ok (.goto 7, 3) := by decide +kernel
theorem dX12_worthBy_60 : decode cX12_worthBy 60 = .ok (.aload_n 0, 1) := by decide +kernel
theorem dX12_worthBy_61 : decode cX12_worthBy 61 = .ok (.invokevirtual 416, 3) := by decide +kernel
theorem dX12_worthBy_64 : decode cX12_worthBy 64 = .ok (.ireturn, 1) := by decide +kernel
set_option maxRecDepth 20000 in
theorem tm_12_403 : tMet TB0 12 403 = some (0, M_X12_leavingNow) := rfl
set_option maxRecDepth 20000 in
theorem tm_12_407 : tMet TB0 12 407 = some (0, M_X12_changedBy) := rfl
set_option maxRecDepth 20000 in
theorem tm_12_410 : tMet TB0 12 410 = some (0, M_X12_sumOfRow) := rfl
set_option maxRecDepth 20000 in
theorem tm_12_413 : tMet TB0 12 413 = some (0, M_X12_inRow) := rfl
set_option maxRecDepth 20000 in
theorem tm_12_416 : tMet TB0 12 416 = some (0, M_X12_leastOfRow) := rfl
theorem tl_12_406 : tLdc TB0 12 406 = some (.inl (-1000000)) := rfl
/-! ROWS as codes; the reference's search through all of them -/
/-- the digits from d on are a row so far; U: the ups in it -/
def rwU (g : Int → Int) (k d U : Int) : Prop := (0 ≤ U ∧ U < 64) ∧ (∀ u, 0 ≤ u → u < 6 → (hasZ U u ↔ ∃ x, (d < x ∧ 0 ≤ x ∧ x < 6) ∧ dgZ k x = u)) ∧ ∀ x, d < x → 0 ≤ x → x < 6 → dgZ k x = 6 ∨ ((x < nd g ∧ dgZ k x < nu g) ∧ ∀ y, d < y → 0 ≤ y → y < 6 → dgZ k y = dgZ k x → y = x)
theorem rwU_0 (g : Int → Int) (k : Int) : rwU g k 5 0 := ⟨⟨by omega, by omega⟩, fun u a b => ⟨fun z => absurd z (has_0 u), fun ⟨x, hx, _⟩ => by omega⟩, fun x a b c => by omega⟩
theorem rwU_6 {g : Int → Int} {k d U : Int} (n : nu g ≤ 6) (d0 : 0 ≤ d) (d1 : d < 6) (H : rwU g k d U) (e : dgZ k d = 6) : rwU g k (d + (-1)) (orZ U 0) := by
  rw [orZ_0 H.1.1]
  refine ⟨H.1, fun u a b => (H.2.1 u a b).trans ⟨fun ⟨x, hx, ex⟩ => ⟨x, by omega, ex⟩, fun ⟨x, hx, ex⟩ => ?_⟩, fun x a b c => ?_⟩
  · by_cases z : x = d
    · rw [z, e] at ex; omega
    · exact ⟨x, by omega, ex⟩
  · by_cases z : x = d
    · rw [z]; exact Or.inl e
    · rcases H.2.2 x (by omega) b c with q | q
      · exact Or.inl q
      · refine Or.inr ⟨q.1, fun y u v w t => ?_⟩
        by_cases s : y = d
        · rw [s, e] at t
          exact absurd n (by have := q.1.2; omega)
        · exact q.2 y (by omega) v w t
theorem rwU_y {g : Int → Int} {k d U : Int} (n : nu g ≤ 6) (d0 : 0 ≤ d) (d1 : d < 6) (H : rwU g k d U) (e : dgZ k d ≠ 6) (l : d < nd g) (l2 : dgZ k d < nu g) (nb : ¬ hasZ U (dgZ k d)) : rwU g k (d + (-1)) (orZ U (shlZ 1 (dgZ k d))) := by
  have b := dg_b k d
  refine ⟨or_b H.1.2 (by omega), fun u a c => ?_, fun x a c f => ?_⟩
  · rw [or1_has b.1 a, H.2.1 u a c]
    constructor
    · rintro (⟨x, hx, ex⟩ | z)
      · exact ⟨x, by omega, ex⟩
      · exact ⟨d, by omega, z.symm⟩
    · rintro ⟨x, hx, ex⟩
      by_cases z : x = d
      · rw [z] at ex; exact Or.inr ex.symm
      · exact Or.inl ⟨x, by omega, ex⟩
  · have no : ∀ y, d < y → 0 ≤ y → y < 6 → dgZ k y ≠ dgZ k d := fun y u v w t => nb ((H.2.1 _ b.1 (by omega)).mpr ⟨y, by omega, t⟩)
    by_cases z : x = d
    · rw [z]
      refine Or.inr ⟨⟨l, l2⟩, fun y u v w t => ?_⟩
      by_cases s : y = d
      · exact s
      · exact absurd t (no y (by omega) v w)
    · rcases H.2.2 x (by omega) c f with q | q
      · exact Or.inl q
      · refine Or.inr ⟨q.1, fun y u v w t => ?_⟩
        by_cases s : y = d
        · rw [s] at t; exact absurd t.symm (no x (by omega) c f)
        · exact q.2 y (by omega) v w t
theorem rwU_bad {g : Int → Int} {k d U : Int} (d0 : 0 ≤ d) (d1 : d < 6) (H : rwU g k d U) (e : dgZ k d ≠ 6) (q : nd g ≤ d ∨ nu g ≤ dgZ k d ∨ hasZ U (dgZ k d)) : ¬ isRw g (dgZ k) := fun w => by
  have b := dg_b k d
  rcases w d d0 d1 with z | z
  · exact e z
  · rcases q with q | q | q
    · omega
    · omega
    · obtain ⟨x, hx, ex⟩ := (H.2.1 _ b.1 (by omega)).mp q
      have := z.2 x hx.2.1 hx.2.2 ex
      omega
theorem rwU_end {g : Int → Int} {k U : Int} (H : rwU g k (-1) U) : isRw g (dgZ k) := fun d a b => by
  have bb := dg_b k d
  rcases H.2.2 d (by omega) a b with q | q
  · exact Or.inl q
  · exact Or.inr ⟨⟨q.1.1, bb.1, q.1.2⟩, fun e u v t => q.2 e (by omega) u v t⟩
theorem dv_s {k d : Int} (h0 : 0 ≤ k) (h1 : k < 117649) (d0 : 0 ≤ d) (d1 : d < 6) : k / scZ (d + 1) % 7 = dgZ k d ∧ k / scZ (d + 1) / 7 = k / scZ (d + (-1) + 1) ∧ 0 ≤ k / scZ (d + 1) ∧ k / scZ (d + 1) ≤ k := by
  refine ⟨rfl, ?_⟩
  rcases (show d = 0 ∨ d = 1 ∨ d = 2 ∨ d = 3 ∨ d = 4 ∨ d = 5 by omega) with q | q | q | q | q | q <;> subst q
  · show k / scZ 1 / 7 = k / scZ 0 ∧ 0 ≤ k / scZ 1 ∧ k / scZ 1 ≤ k
    rw [sc_0, sc_1]; omega
  · show k / scZ 2 / 7 = k / scZ 1 ∧ 0 ≤ k / scZ 2 ∧ k / scZ 2 ≤ k
    rw [sc_2, sc_1]; omega
  · show k / scZ 3 / 7 = k / scZ 2 ∧ 0 ≤ k / scZ 3 ∧ k / scZ 3 ≤ k
    rw [sc_2, sc_3]; omega
  · show k / scZ 4 / 7 = k / scZ 3 ∧ 0 ≤ k / scZ 4 ∧ k / scZ 4 ≤ k
    rw [sc_4, sc_3]; omega
  · show k / scZ 5 / 7 = k / scZ 4 ∧ 0 ≤ k / scZ 5 ∧ k / scZ 5 ≤ k
    rw [sc_4, sc_5]; omega
  · show k / scZ 6 / 7 = k / scZ 5 ∧ 0 ≤ k / scZ 6 ∧ k / scZ 6 ≤ k
    rw [sc_6, sc_5]; omega
set_option maxHeartbeats 2000000 in
theorem zp_X12_isRow {ad : mA} {dd : Nat} {h : mH} {Q : mQ} {m : Nat} {g : Int → Int} (hk : rk h m) (HB : rB h m g)  (k : Int) (k_r : -2147483648 ≤ k ∧ k < 2147483648) (p1 : 0 ≤ k ∧ k < 117649) (kq : ∀ v : Int, ((v = 1 ∧ isRw g (dgZ k)) ∨ (v = 0 ∧ ¬ isRw g (dgZ k))) → ∀ h1, frm (fun a i => a = m + 16) h h1 → (v = 1 → rRw h1 m g (dgZ k)) → Q (some (.int (zI v))) h1) : mCal TB0 ad (dd + 2) M_X12_isRow [.ref m, .int (zI k)] h 0 0 Q := by
  refine ⟨Nat.le_of_ble_eq_true rfl, ?_⟩
  show mEv TB0 ad M_X12_isRow (dd + 2) (0, 0) (mCal TB0 ad (dd + 1)) (fun v h' z => z.1 = 0 ∧ Q v h') 0 [some (.ref m), some (.int (zI k)), none, none, none, none] [] h (0, 0)
  have FR0 : frm (fun a i => a = m + 16) h h := frm_0 h
  have w1 := rB_n HB
  have w2 := rB_nd HB
  have w3 := rB_nu HB
  refine e_iload_n dX12_isRow_0 rfl ?_
  refine e_istore_n (L' := [_, _, _, _, _, _]) dX12_isRow_1 (Nat.le_of_ble_eq_true rfl) rfl ?_
  refine z_iconst (0) dX12_isRow_2 rfl ?_
  refine e_istore_n (L' := [_, _, _, _, _, _]) dX12_isRow_3 (Nat.le_of_ble_eq_true rfl) rfl ?_
  refine z_iconst (5) dX12_isRow_4 rfl ?_
  refine e_istore (L' := [_, _, _, _, _, _]) dX12_isRow_5 (Nat.le_of_ble_eq_true rfl) rfl ?_
  have lp1 : ∀ (n1 : Nat) (l U d : Int) (h1 : mH), (d + 1).toNat = n1 → (rk h1 m) → (rB h1 m g) → (frm (fun a i => a = m + 16) h h1) → (-1 ≤ d ∧ d ≤ 5) → (l = k / scZ (d + 1)) → (rwU g k d U) → (∀ x : Int, d < x → 0 ≤ x → x < 6 → rI h1 (m + 16) x = dgZ k x) → mEv TB0 ad M_X12_isRow (dd + 2) (0, 0) (mCal TB0 ad (dd + 1)) (fun v h' z => z.1 = 0 ∧ Q v h') 7 [some (.ref m), some (.int (zI k)), some (.int (zI l)), some (.int (zI U)), some (.int (zI d)), none] [] h1 (0, 0) := by
    intro n1
    induction n1 using Nat.strongRecOn with
    | ind n1 ih1 =>
    intro l U d h1 hn1 k2 H3 FR4 I1 I2 I3 I4
    refine e_iload dX12_isRow_7 rfl ?_
    refine z_if_lt 118 dX12_isRow_9 rfl ⟨by omega, by omega⟩ (fun c5 => ?_) (fun c5 => ?_)
    · skip
      refine z_iconst (1) dX12_isRow_118 rfl ?_
      refine z_bret dX12_isRow_119 rfl (Or.inr rfl) ⟨rfl, ?_⟩
      have e1 := rwU_end (show rwU g k (-1) U by rw [show (-1 : Int) = d by omega]; exact I3)
      exact kq 1 (Or.inl ⟨rfl, e1⟩) _ FR4 (fun _ => ⟨⟨e1, isRw_b (by omega) e1⟩, fun x a c => I4 x (by omega) a c⟩)
    · skip
      have dv := dv_s p1.1 p1.2 (show 0 ≤ d by omega) (by omega)
      have db := dg_b k d
      have ub := I3.1
      have le : l % 7 = dgZ k d := by rw [I2]; rfl
      refine e_aload_n dX12_isRow_12 rfl ?_
      refine e_get (.ref (m + 16)) dX12_isRow_13 tf_12_56 (rk_s k2) (congrArg va_rf (rk_r16 k2)) ?_
      refine e_iload dX12_isRow_16 rfl ?_
      refine e_iload_n dX12_isRow_18 rfl ?_
      refine z_bipush (7) dX12_isRow_19 rfl ?_
      refine z_irem dX12_isRow_21 (by omega) (by omega) (by omega) (by omega) ?_
      refine z_ist dX12_isRow_22 (rk_a16 k2) (by decide) (by omega) (by omega) (fun h6 e7 => ?_)
      have f8 := frm_1 e7
      have k9 := rk_q (frm_s f8) k2
      have H10 := rB_c f8 (fun a k q => by omega) H3
      have FR11 := frm_t FR4 (frm_m (S' := (fun a i => a = m + 16)) f8 (fun a k q => by omega))
      refine e_iload_n dX12_isRow_23 rfl ?_
      refine z_bipush (7) dX12_isRow_24 rfl ?_
      refine z_idiv dX12_isRow_26 (by omega) (by omega) (by omega) (by omega) ?_
      refine e_istore_n (L' := [_, _, _, _, _, _]) dX12_isRow_27 (Nat.le_of_ble_eq_true rfl) rfl ?_
      refine e_aload_n dX12_isRow_28 rfl ?_
      refine e_get (.ref (m + 16)) dX12_isRow_29 tf_12_56 (rk_s k9) (congrArg va_rf (rk_r16 k9)) ?_
      refine e_iload dX12_isRow_32 rfl ?_
      refine z_ild (dgZ k d) dX12_isRow_34 (rk_a16 k9) (by decide) (by omega) (by omega) (((rI_eq e7 ⟨by omega, by omega⟩)).trans le) ?_
      refine z_bipush (6) dX12_isRow_35 rfl ?_
      refine z_icmp_ne 44 dX12_isRow_37 rfl ⟨by omega, by omega⟩ ⟨by omega, by omega⟩ (fun c12 => ?_) (fun c12 => ?_)
      · skip
        refine z_iconst (0) dX12_isRow_44 rfl ?_
        refine e_istore (L' := [_, _, _, _, _, _]) dX12_isRow_45 (Nat.le_of_ble_eq_true rfl) rfl ?_
        refine e_iload dX12_isRow_47 rfl ?_
        refine z_if_ne 91 dX12_isRow_49 rfl ⟨by omega, by omega⟩ (fun c13 => ?_) (fun c13 => ?_)
        · exfalso; omega
        · skip
          refine e_iload dX12_isRow_52 rfl ?_
          refine e_aload_n dX12_isRow_54 rfl ?_
          refine z_get (nd g) dX12_isRow_55 tf_12_271 (rk_s k9) (Or.inl rfl) (rB_nd H10) ?_
          have y14 := rB_n H10
          refine z_icmp_ge 89 dX12_isRow_58 rfl ⟨by omega, by omega⟩ ⟨by omega, by omega⟩ (fun c15 => ?_) (fun c15 => ?_)
          · skip
            refine z_iconst (0) dX12_isRow_89 rfl ?_
            refine z_bret dX12_isRow_90 rfl (Or.inl rfl) ⟨rfl, ?_⟩
            exact kq 0 (Or.inr ⟨rfl, rwU_bad (by omega) (by omega) I3 (by omega) (by first | exact Or.inl (by omega) | exact Or.inr (Or.inl (by omega)) | exact Or.inr (Or.inr (by assumption)))⟩) _ FR11 (fun z => absurd z (by omega))
          · skip
            refine e_aload_n dX12_isRow_61 rfl ?_
            refine e_get (.ref (m + 16)) dX12_isRow_62 tf_12_56 (rk_s k9) (congrArg va_rf (rk_r16 k9)) ?_
            refine e_iload dX12_isRow_65 rfl ?_
            refine z_ild (dgZ k d) dX12_isRow_67 (rk_a16 k9) (by decide) (by omega) (by omega) (((rI_eq e7 ⟨by omega, by omega⟩)).trans le) ?_
            refine e_aload_n dX12_isRow_68 rfl ?_
            refine z_get (nu g) dX12_isRow_69 tf_12_274 (rk_s k9) (Or.inl rfl) (rB_nu H10) ?_
            have y16 := rB_n H10
            refine z_icmp_ge 89 dX12_isRow_72 rfl ⟨by omega, by omega⟩ ⟨by omega, by omega⟩ (fun c17 => ?_) (fun c17 => ?_)
            · skip
              refine z_iconst (0) dX12_isRow_89 rfl ?_
              refine z_bret dX12_isRow_90 rfl (Or.inl rfl) ⟨rfl, ?_⟩
              exact kq 0 (Or.inr ⟨rfl, rwU_bad (by omega) (by omega) I3 (by omega) (by first | exact Or.inl (by omega) | exact Or.inr (Or.inl (by omega)) | exact Or.inr (Or.inr (by assumption)))⟩) _ FR11 (fun z => absurd z (by omega))
            · skip
              refine e_iload_n dX12_isRow_75 rfl ?_
              refine e_aload_n dX12_isRow_76 rfl ?_
              refine e_get (.ref (m + 16)) dX12_isRow_77 tf_12_56 (rk_s k9) (congrArg va_rf (rk_r16 k9)) ?_
              refine e_iload dX12_isRow_80 rfl ?_
              refine z_ild (dgZ k d) dX12_isRow_82 (rk_a16 k9) (by decide) (by omega) (by omega) (((rI_eq e7 ⟨by omega, by omega⟩)).trans le) ?_
              refine e_callS [.int _, .int _] dX12_isRow_83 tm_12_107 rfl (Nat.le_of_ble_eq_true rfl) (Nat.le_refl _) (Nat.le_refl _) rfl (zp_X12_has U ⟨by omega, by omega⟩ (dgZ k d) ⟨by omega, by omega⟩ (by omega) (by omega) (by omega) ?_)
              refine z_ifb_eq 91 dX12_isRow_86 rfl (fun c18 => ?_) (fun c18 => ?_)
              · skip
                refine e_iload_n dX12_isRow_91 rfl ?_
                refine e_iload dX12_isRow_92 rfl ?_
                refine z_if_eq 101 dX12_isRow_94 rfl ⟨by omega, by omega⟩ (fun c19 => ?_) (fun c19 => ?_)
                · skip
                  refine z_iconst (1) dX12_isRow_101 rfl ?_
                  refine e_aload_n dX12_isRow_102 rfl ?_
                  refine e_get (.ref (m + 16)) dX12_isRow_103 tf_12_56 (rk_s k9) (congrArg va_rf (rk_r16 k9)) ?_
                  refine e_iload dX12_isRow_106 rfl ?_
                  refine z_ild (dgZ k d) dX12_isRow_108 (rk_a16 k9) (by decide) (by omega) (by omega) (((rI_eq e7 ⟨by omega, by omega⟩)).trans le) ?_
                  refine z_ishl dX12_isRow_109 (by omega) (by omega) (by omega) (by omega) ?_
                  have y20 := shlZ_b 1 (dgZ k d)
                  refine z_ior dX12_isRow_110 (by omega) (by omega) (by omega) (by omega) ?_
                  have y21 := orZ_b U (shlZ 1 (dgZ k d))
                  refine e_istore_n (L' := [_, _, _, _, _, _]) dX12_isRow_111 (Nat.le_of_ble_eq_true rfl) rfl ?_
                  refine z_iinc (L' := [_, _, _, _, _, _]) dX12_isRow_112 rfl rfl ?_
                  refine e_goto 7 dX12_isRow_115 rfl ?_
                  exact mEv_wk (by exact ⟨Or.inr rfl, Or.inr rfl, Or.inr rfl, Or.inr rfl, Or.inr rfl, Or.inl rfl, trivial⟩) (ih1 _ (by omega) (l / 7) (orZ U (shlZ 1 (dgZ k d))) (d + (-1)) h6 rfl k9 H10 FR11 (by omega) (by rw [← dv.2.1, ← I2]) (by first | exact rwU_6 (by omega) (by omega) (by omega) I3 (by omega) | exact rwU_y (by omega) (by omega) (by omega) I3 (by omega) (by omega) (by omega) (by assumption)) (fun x a b c => by
                            by_cases q : x = d
                            · rw [q]; exact ((rI_eq e7 ⟨by omega, by omega⟩)).trans (by rw [I2]; rfl)
                            · exact ((frm_r f8 (by omega))).trans (I4 x (by omega) b c)))
                · exfalso; omega
              · skip
                refine z_iconst (0) dX12_isRow_89 rfl ?_
                refine z_bret dX12_isRow_90 rfl (Or.inl rfl) ⟨rfl, ?_⟩
                exact kq 0 (Or.inr ⟨rfl, rwU_bad (by omega) (by omega) I3 (by omega) (by first | exact Or.inl (by omega) | exact Or.inr (Or.inl (by omega)) | exact Or.inr (Or.inr (by assumption)))⟩) _ FR11 (fun z => absurd z (by omega))
      · skip
        refine z_iconst (1) dX12_isRow_40 rfl ?_
        refine e_goto 45 dX12_isRow_41 rfl ?_
        refine e_istore (L' := [_, _, _, _, _, _]) dX12_isRow_45 (Nat.le_of_ble_eq_true rfl) rfl ?_
        refine e_iload dX12_isRow_47 rfl ?_
        refine z_if_ne 91 dX12_isRow_49 rfl ⟨by omega, by omega⟩ (fun c22 => ?_) (fun c22 => ?_)
        · skip
          refine e_iload_n dX12_isRow_91 rfl ?_
          refine e_iload dX12_isRow_92 rfl ?_
          refine z_if_eq 101 dX12_isRow_94 rfl ⟨by omega, by omega⟩ (fun c23 => ?_) (fun c23 => ?_)
          · exfalso; omega
          · skip
            refine z_iconst (0) dX12_isRow_97 rfl ?_
            refine e_goto 110 dX12_isRow_98 rfl ?_
            refine z_ior dX12_isRow_110 (by omega) (by omega) (by omega) (by omega) ?_
            have y24 := orZ_b U 0
            refine e_istore_n (L' := [_, _, _, _, _, _]) dX12_isRow_111 (Nat.le_of_ble_eq_true rfl) rfl ?_
            refine z_iinc (L' := [_, _, _, _, _, _]) dX12_isRow_112 rfl rfl ?_
            refine e_goto 7 dX12_isRow_115 rfl ?_
            exact mEv_wk (by exact ⟨Or.inr rfl, Or.inr rfl, Or.inr rfl, Or.inr rfl, Or.inr rfl, Or.inl rfl, trivial⟩) (ih1 _ (by omega) (l / 7) (orZ U 0) (d + (-1)) h6 rfl k9 H10 FR11 (by omega) (by rw [← dv.2.1, ← I2]) (by first | exact rwU_6 (by omega) (by omega) (by omega) I3 (by omega) | exact rwU_y (by omega) (by omega) (by omega) I3 (by omega) (by omega) (by omega) (by assumption)) (fun x a b c => by
                      by_cases q : x = d
                      · rw [q]; exact ((rI_eq e7 ⟨by omega, by omega⟩)).trans (by rw [I2]; rfl)
                      · exact ((frm_r f8 (by omega))).trans (I4 x (by omega) b c)))
        · exfalso; omega
  exact lp1 _ k 0 5 h rfl hk HB FR0 (by omega) (by show k = k / scZ 6; rw [sc_6]; omega) (rwU_0 g k) (fun x a b c => by omega)
noncomputable def wtB (g : Int → Int) (how : Int) (r : Int → Int) : Int := if how = 3 then (if 0 < lvN g r then -1000000 else - chR g r) else if how = 4 then sfR g r else if inR r < min (nd g) (nu g) then -1000000 else lfR g r
theorem wtB_b {g : Int → Int} (n : (0 ≤ nd g ∧ nd g ≤ 6) ∧ (0 ≤ nu g ∧ nu g ≤ 6)) (how : Int) (r : Int → Int) : -1000000 ≤ wtB g how r ∧ wtB g how r ≤ 1000000 := by
  have h1 := chR_b n.1 r
  have h2 := sfR_b g r
  have h3 := lm_b g r 6
  unfold wtB
  split
  · split <;> omega
  · split
    · omega
    · split
      · omega
      · show -1000000 ≤ lmN g r 6 ∧ lmN g r 6 ≤ 1000000; omega
theorem lvN_0 {g r : Int → Int} (n : 0 ≤ nd g ∧ 0 ≤ nu g) : lvN g r ≤ 0 ↔ stn g r := by
  have nn : ∀ d, ∀ u : Int, 0 ≤ u → u < (nu g).toNat → 0 ≤ lvB g r d u := fun d u _ _ => by have := lvB_b g r d u; omega
  have nm : ∀ d : Int, 0 ≤ d → d < (nd g).toNat → 0 ≤ sumZ (fun u => lvB g r d u) (nu g).toNat := fun d _ _ => by
    have := sumZ_b (f := fun u => lvB g r d u) (lo := 0) (hi := 1) (n := (nu g).toNat) (fun i _ _ => by have := lvB_b g r d i; omega)
    omega
  constructor
  · intro h d u d0 d1 u0 u1 lv
    have a := sumZ_ge (f := fun d => sumZ (fun u => lvB g r d u) (nu g).toNat) (n := (nd g).toNat) nm d0 (by omega)
    have b := sumZ_ge (f := fun u => lvB g r d u) (n := (nu g).toNat) (nn d) u0 (by omega)
    have c := lvB_1 lv
    unfold lvN at h
    omega
  · intro s
    have z : ∀ d : Int, 0 ≤ d → d < (nd g).toNat → sumZ (fun u => lvB g r d u) (nu g).toNat = 0 := fun d a b => by
      have := sumZ_b (f := fun u => lvB g r d u) (lo := 0) (hi := 0) (n := (nu g).toNat) (fun i u v => by rw [lvB_0 (s d i a (by omega) u (by omega))]; omega)
      omega
    have := sumZ_b (f := fun d => sumZ (fun u => lvB g r d u) (nu g).toNat) (lo := 0) (hi := 0) (n := (nd g).toNat) (fun i a b => by rw [z i a b]; omega)
    unfold lvN; omega
set_option maxHeartbeats 400000 in
theorem zp_X12_worthBy_3 {ad : mA} {dd : Nat} {h : mH} {Q : mQ} {m : Nat} {g r : Int → Int} (hk : rk h m) (HB : rB h m g) (HM : rM h m g) (HW : rRw h m g r)    (kq : ∀ h1, frm (fun a k => a = m + 18) h h1 → Q (some (.int (zI (wtB g 3 r)))) h1) : mCal TB0 ad (dd + 6) M_X12_worthBy [.ref m, .int (zI 3)] h 0 0 Q := by
  refine ⟨Nat.le_of_ble_eq_true rfl, ?_⟩
  show mEv TB0 ad M_X12_worthBy (dd + 6) (0, 0) (mCal TB0 ad (dd + 5)) (fun v h' z => z.1 = 0 ∧ Q v h') 0 [some (.ref m), some (.int (zI 3))] [] h (0, 0)
  have FR0 : frm (fun a k => a = m + 18) h h := frm_0 h
  have w1 := rB_n HB
  have w2 := rB_nd HB
  have w3 := rB_nu HB
  refine e_iload_n dX12_worthBy_0 rfl ?_
  refine z_iconst (3) dX12_worthBy_1 rfl ?_
  refine z_icmp_ne 24 dX12_worthBy_2 rfl ⟨by omega, by omega⟩ ⟨by omega, by omega⟩ (fun c1 => ?_) (fun c1 => ?_)
  · exfalso; omega
  · skip
    refine e_aload_n dX12_worthBy_5 rfl ?_
    refine e_callV [] dX12_worthBy_6 tm_12_403 rfl (Nat.le_of_ble_eq_true rfl) (rk_s hk) (Nat.le_of_ble_eq_true rfl) (Nat.le_refl _) (Nat.le_refl _) rfl (zp_X12_leavingNow hk HB HW (fun  h2 f3 p4 => ?_))
    have k5 := rk_q (frm_s f3) hk
    have H6 := rB_c f3 (fun a k q => by omega) HB
    have H7 := rM_c f3 (fun a k q => by omega) HM
    have H8 := rRw_c f3 (fun a k q => by omega) HW
    have FR9 := frm_t FR0 (frm_m (S' := (fun a k => a = m + 18)) f3 (fun a k q => by omega))
    have y10 := lvN_b (show (0 ≤ nd g ∧ nd g ≤ 6) ∧ (0 ≤ nu g ∧ nu g ≤ 6) by omega) r
    refine z_if_le 18 dX12_worthBy_9 rfl ⟨by omega, by omega⟩ (fun c11 => ?_) (fun c11 => ?_)
    · skip
      refine e_aload_n dX12_worthBy_18 rfl ?_
      refine e_callV [] dX12_worthBy_19 tm_12_407 rfl (Nat.le_of_ble_eq_true rfl) (rk_s k5) (Nat.le_of_ble_eq_true rfl) (Nat.le_refl _) (Nat.le_refl _) rfl (zp_X12_changedBy k5 H6 H7 H8 ?_)
      have y12 := chR_b (show 0 ≤ nd g ∧ nd g ≤ 6 by omega) r
      refine z_ineg dX12_worthBy_22 ?_
      refine z_iret dX12_worthBy_23 rfl ⟨rfl, ?_⟩
      refine z_q (kq _ FR9) ?_
      unfold wtB
      rw [if_pos rfl]
      first | rw [if_pos (by omega)] | rw [if_neg (by omega)]
    · skip
      refine z_ldc_w (-1000000) dX12_worthBy_12 tl_12_406 rfl ?_
      refine e_goto 23 dX12_worthBy_15 rfl ?_
      refine z_iret dX12_worthBy_23 rfl ⟨rfl, ?_⟩
      refine z_q (kq _ FR9) ?_
      unfold wtB
      rw [if_pos rfl]
      first | rw [if_pos (by omega)] | rw [if_neg (by omega)]
set_option maxHeartbeats 400000 in
theorem zp_X12_worthBy_4 {ad : mA} {dd : Nat} {h : mH} {Q : mQ} {m : Nat} {g r : Int → Int} (hk : rk h m) (HB : rB h m g) (HM : rM h m g) (HW : rRw h m g r)    (kq : ∀ h1, frm (fun a k => a = m + 18) h h1 → Q (some (.int (zI (wtB g 4 r)))) h1) : mCal TB0 ad (dd + 6) M_X12_worthBy [.ref m, .int (zI 4)] h 0 0 Q := by
  refine ⟨Nat.le_of_ble_eq_true rfl, ?_⟩
  show mEv TB0 ad M_X12_worthBy (dd + 6) (0, 0) (mCal TB0 ad (dd + 5)) (fun v h' z => z.1 = 0 ∧ Q v h') 0 [some (.ref m), some (.int (zI 4))] [] h (0, 0)
  have FR0 : frm (fun a k => a = m + 18) h h := frm_0 h
  have w1 := rB_n HB
  have w2 := rB_nd HB
  have w3 := rB_nu HB
  refine e_iload_n dX12_worthBy_0 rfl ?_
  refine z_iconst (3) dX12_worthBy_1 rfl ?_
  refine z_icmp_ne 24 dX12_worthBy_2 rfl ⟨by omega, by omega⟩ ⟨by omega, by omega⟩ (fun c1 => ?_) (fun c1 => ?_)
  · skip
    refine e_iload_n dX12_worthBy_24 rfl ?_
    refine z_iconst (4) dX12_worthBy_25 rfl ?_
    refine z_icmp_ne 36 dX12_worthBy_26 rfl ⟨by omega, by omega⟩ ⟨by omega, by omega⟩ (fun c2 => ?_) (fun c2 => ?_)
    · exfalso; omega
    · skip
      refine e_aload_n dX12_worthBy_29 rfl ?_
      refine e_callV [] dX12_worthBy_30 tm_12_410 rfl (Nat.le_of_ble_eq_true rfl) (rk_s hk) (Nat.le_of_ble_eq_true rfl) (Nat.le_refl _) (Nat.le_refl _) rfl (zp_X12_sumOfRow hk HB HW ?_)
      have y3 := sfR_b g r
      refine e_goto 64 dX12_worthBy_33 rfl ?_
      refine z_iret dX12_worthBy_64 rfl ⟨rfl, ?_⟩
      refine z_q (kq _ FR0) ?_
      unfold wtB
      rw [if_neg (by omega), if_pos rfl]
  · exfalso; omega
set_option maxHeartbeats 400000 in
theorem zp_X12_worthBy_5 {ad : mA} {dd : Nat} {h : mH} {Q : mQ} {m : Nat} {g r : Int → Int} (hk : rk h m) (HB : rB h m g) (HM : rM h m g) (HW : rRw h m g r)    (kq : ∀ h1, frm (fun a k => a = m + 18) h h1 → Q (some (.int (zI (wtB g 5 r)))) h1) : mCal TB0 ad (dd + 6) M_X12_worthBy [.ref m, .int (zI 5)] h 0 0 Q := by
  refine ⟨Nat.le_of_ble_eq_true rfl, ?_⟩
  show mEv TB0 ad M_X12_worthBy (dd + 6) (0, 0) (mCal TB0 ad (dd + 5)) (fun v h' z => z.1 = 0 ∧ Q v h') 0 [some (.ref m), some (.int (zI 5))] [] h (0, 0)
  have FR0 : frm (fun a k => a = m + 18) h h := frm_0 h
  have w1 := rB_n HB
  have w2 := rB_nd HB
  have w3 := rB_nu HB
  refine e_iload_n dX12_worthBy_0 rfl ?_
  refine z_iconst (3) dX12_worthBy_1 rfl ?_
  refine z_icmp_ne 24 dX12_worthBy_2 rfl ⟨by omega, by omega⟩ ⟨by omega, by omega⟩ (fun c1 => ?_) (fun c1 => ?_)
  · skip
    refine e_iload_n dX12_worthBy_24 rfl ?_
    refine z_iconst (4) dX12_worthBy_25 rfl ?_
    refine z_icmp_ne 36 dX12_worthBy_26 rfl ⟨by omega, by omega⟩ ⟨by omega, by omega⟩ (fun c2 => ?_) (fun c2 => ?_)
    · skip
      refine e_aload_n dX12_worthBy_36 rfl ?_
      refine e_callV [] dX12_worthBy_37 tm_12_413 rfl (Nat.le_of_ble_eq_true rfl) (rk_s hk) (Nat.le_of_ble_eq_true rfl) (Nat.le_refl _) (Nat.le_refl _) rfl (zp_X12_inRow hk HW ?_)
      have y3 := inR_b r
      refine e_aload_n dX12_worthBy_40 rfl ?_
      refine z_get (nd g) dX12_worthBy_41 tf_12_271 (rk_s hk) (Or.inl rfl) (rB_nd HB) ?_
      have y4 := rB_n HB
      refine e_aload_n dX12_worthBy_44 rfl ?_
      refine z_get (nu g) dX12_worthBy_45 tf_12_274 (rk_s hk) (Or.inl rfl) (rB_nu HB) ?_
      have y5 := rB_n HB
      refine e_callS [.int _, .int _] dX12_worthBy_48 tm_12_340 rfl (Nat.le_of_ble_eq_true rfl) (Nat.le_refl _) (Nat.le_refl _) rfl (zp_X12_lesser (nd g) ⟨by omega, by omega⟩ (nu g) ⟨by omega, by omega⟩ ?_)
      refine z_icmp_ge 60 dX12_worthBy_51 rfl ⟨by omega, by omega⟩ ⟨by omega, by omega⟩ (fun c6 => ?_) (fun c6 => ?_)
      · skip
        refine e_aload_n dX12_worthBy_60 rfl ?_
        refine e_callV [] dX12_worthBy_61 tm_12_416 rfl (Nat.le_of_ble_eq_true rfl) (rk_s hk) (Nat.le_of_ble_eq_true rfl) (Nat.le_refl _) (Nat.le_refl _) rfl (zp_X12_leastOfRow hk HB HW ?_)
        have y7 := lm_b g r 6
        refine z_iret dX12_worthBy_64 rfl ⟨rfl, ?_⟩
        refine z_q (kq _ FR0) ?_
        unfold wtB
        rw [if_neg (by omega), if_neg (by omega)]
        first | rw [if_pos (by omega)] | rw [if_neg (by omega)]
      · skip
        refine z_ldc_w (-1000000) dX12_worthBy_54 tl_12_406 rfl ?_
        refine e_goto 64 dX12_worthBy_57 rfl ?_
        refine z_iret dX12_worthBy_64 rfl ⟨rfl, ?_⟩
        refine z_q (kq _ FR0) ?_
        unfold wtB
        rw [if_neg (by omega), if_neg (by omega)]
        first | rw [if_pos (by omega)] | rw [if_neg (by omega)]
    · exfalso; omega
  · exfalso; omega
