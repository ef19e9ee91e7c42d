/-! TRADE: a ring of the class -/
theorem dX4_closeRing_0 : decode cX4_closeRing 0 = .ok (.aload_n 1, 1) := by decide +kernel
theorem dX4_closeRing_1 : decode cX4_closeRing 1 = .ok (.iload_n 2, 1) := by decide +kernel
theorem dX4_closeRing_2 : decode cX4_closeRing 2 = .ok (.iconst (-1), 1) := by decide +kernel
theorem dX4_closeRing_3 : decode cX4_closeRing 3 = .ok (.invokestatic 53, 3) := by decide +kernel
theorem dX4_closeRing_6 : decode cX4_closeRing 6 = .ok (.istore_n 3, 1) := by decide +kernel
theorem dX4_closeRing_7 : decode cX4_closeRing 7 = .ok (.iconst 0, 1) := by decide +kernel
theorem dX4_closeRing_8 : decode cX4_closeRing 8 = .ok (.istore 4, 2) := by decide +kernel
theorem dX4_closeRing_10 : decode cX4_closeRing 10 = .ok (.iload 4, 2) := by decide +kernel
theorem dX4_closeRing_12 : decode cX4_closeRing 12 = .ok (.bipush 6, 2) := by decide +kernel
theorem dX4_closeRing_14 : decode cX4_closeRing 14 = .ok (.if_icmp .ge 16, 3) := by decide +kernel
theorem dX4_closeRing_17 : decode cX4_closeRing 17 = .ok (.aload_n 1, 1) := by decide +kernel
theorem dX4_closeRing_18 : decode cX4_closeRing 18 = .ok (.iload_n 2, 1) := by decide +kernel
theorem dX4_closeRing_19 : decode cX4_closeRing 19 = .ok (.iload_n 3, 1) := by decide +kernel
theorem dX4_closeRing_20 : decode cX4_closeRing 20 = .ok (.invokestatic 53, 3) := by decide +kernel
theorem dX4_closeRing_23 : decode cX4_closeRing 23 = .ok (.istore_n 3, 1) := by decide +kernel
theorem dX4_closeRing_24 : decode cX4_closeRing 24 = .ok (.iinc 4 1, 3) := by decide +kernel
theorem dX4_closeRing_27 : decode cX4_closeRing 27 = .ok (.goto (-17), 3) := by decide +kernel
theorem dX4_closeRing_30 : decode cX4_closeRing 30 = .ok (.iconst 0, 1) := by decide +kernel
theorem dX4_closeRing_31 : decode cX4_closeRing 31 = .ok (.istore 4, 2) := by decide +kernel
theorem dX4_closeRing_33 : decode cX4_closeRing 33 = .ok (.iconst 0, 1) := by decide +kernel
theorem dX4_closeRing_34 : decode cX4_closeRing 34 = .ok (.istore 5, 2) := by decide +kernel
theorem dX4_closeRing_36 : decode cX4_closeRing 36 = .ok (.iload 5, 2) := by decide +kernel
theorem dX4_closeRing_38 : decode cX4_closeRing 38 = .ok (.bipush 6, 2) := by decide +kernel
theorem dX4_closeRing_40 : decode cX4_closeRing 40 = .ok (.if_icmp .ge 54, 3) := by decide +kernel
theorem dX4_closeRing_43 : decode cX4_closeRing 43 = .ok (.iload_n 3, 1) := by decide +kernel
theorem dX4_closeRing_44 : decode cX4_closeRing 44 = .ok (.iconst (-1), 1) := by decide +kernel
theorem dX4_closeRing_45 : decode cX4_closeRing 45 = .ok (.if_icmp .eq 49, 3) := by decide +kernel
theorem dX4_closeRing_48 : decode cX4_closeRing 48 = .ok (.iload 4, 2) := by decide +kernel
theorem dX4_closeRing_50 : decode cX4_closeRing 50 = .ok (.iload_n 3, 1) := by decide +kernel
theorem dX4_closeRing_51 : decode cX4_closeRing 51 = .ok (.ishr, 1) := by decide +kernel
theorem dX4_closeRing_52 : decode cX4_closeRing 52 = .ok (.iconst 1, 1) := by decide +kernel
theorem dX4_closeRing_53 : decode cX4_closeRing 53 = .ok (.iand, 1) := by decide +kernel
theorem dX4_closeRing_54 : decode cX4_closeRing 54 = .ok (.ifCond .ne 40, 3) := by decide +kernel
theorem dX4_closeRing_57 : decode cX4_closeRing 57 = .ok (.iload 4, 2) := by decide +kernel
theorem dX4_closeRing_59 : decode cX4_closeRing 59 = .ok (.iconst 1, 1) := by decide +kernel
theorem dX4_closeRing_60 : decode cX4_closeRing 60 = .ok (.iload_n 3, 1) := by decide +kernel
theorem dX4_closeRing_61 : decode cX4_closeRing 61 = .ok (.ishl, 1) := by decide +kernel
theorem dX4_closeRing_62 : decode cX4_closeRing 62 = .ok (.ior, 1) := by decide +kernel
theorem dX4_closeRing_63 : decode cX4_closeRing 63 = .ok (.istore 4, 2) := by decide +kernel
theorem dX4_closeRing_65 : decode cX4_closeRing 65 = .ok (.aload_n 1, 1) := by decide +kernel
theorem dX4_closeRing_66 : decode cX4_closeRing 66 = .ok (.iload_n 2, 1) := by decide +kernel
theorem dX4_closeRing_67 : decode cX4_closeRing 67 = .ok (.iload_n 3, 1) := by decide +kernel
theorem dX4_closeRing_68 : decode cX4_closeRing 68 = .ok (.invokestatic 53, 3) := by decide +kernel
theorem dX4_closeRing_71 : decode cX4_closeRing 71 = .ok (.istore 6, 2) := by decide +kernel
theorem dX4_closeRing_73 : decode cX4_closeRing 73 = .ok (.aload_n 0, 1) := by decide +kernel
theorem dX4_closeRing_74 : decode cX4_closeRing 74 = .ok (.getfield 9, 3) := by decide +kernel
theorem dX4_closeRing_77 : decode cX4_closeRing 77 = .ok (.iload_n 3, 1) := by decide +kernel
theorem dX4_closeRing_78 : decode cX4_closeRing 78 = .ok (.aload_n 1, 1) := by decide +kernel
theorem dX4_closeRing_79 : decode cX4_closeRing 79 = .ok (.iload 6, 2) := by decide +kernel
theorem dX4_closeRing_81 : decode cX4_closeRing 81 = .ok (.invokevirtual 45, 3) := by decide +kernel
theorem dX4_closeRing_84 : decode cX4_closeRing 84 = .ok (.iastore, 1) := by decide +kernel
theorem dX4_closeRing_85 : decode cX4_closeRing 85 = .ok (.iload 6, 2) := by decide +kernel
theorem dX4_closeRing_87 : decode cX4_closeRing 87 = .ok (.istore_n 3, 1) := by decide +kernel
theorem dX4_closeRing_88 : decode cX4_closeRing 88 = .ok (.iinc 5 1, 3) := by decide +kernel
theorem dX4_closeRing_91 : decode cX4_closeRing 91 = .ok (.goto (-55), 3) := by decide +kernel
theorem dX4_closeRing_94 : decode cX4_closeRing 94 = .ok (.aload_n 0, 1) := by decide +kernel
theorem dX4_closeRing_95 : decode cX4_closeRing 95 = .ok (.dup, 1) := by decide +kernel
theorem dX4_closeRing_96 : decode cX4_closeRing 96 = .ok (.getfield 18, 3) := by decide +kernel
theorem dX4_closeRing_99 : decode cX4_closeRing 99 = .ok (.iconst 1, 1) := by decide +kernel
theorem dX4_closeRing_100 : decode cX4_closeRing 100 = .ok (.iadd, 1) := by decide +kernel
theorem dX4_closeRing_101 : decode cX4_closeRing 101 = .ok (.putfield 18, 3) := by decide +kernel
theorem dX4_closeRing_104 : decode cX4_closeRing 104 = .ok (.iload 4, 2) := by decide +kernel
theorem dX4_closeRing_106 : decode cX4_closeRing 106 = .ok (.ireturn, 1) := by decide +kernel
theorem dX4_pointedBy_0 : decode cX4_pointedBy 0 = .ok (.iconst (-1), 1) := by decide +kernel
theorem dX4_pointedBy_1 : decode cX4_pointedBy 1 = .ok (.istore_n 3, 1) := by decide +kernel
theorem dX4_pointedBy_2 : decode cX4_pointedBy 2 = .ok (.iconst 0, 1) := by decide +kernel
theorem dX4_pointedBy_3 : decode cX4_pointedBy 3 = .ok (.istore 4, 2) := by decide +kernel
theorem dX4_pointedBy_5 : decode cX4_pointedBy 5 = .ok (.iload 4, 2) := by decide +kernel
theorem dX4_pointedBy_7 : decode cX4_pointedBy 7 = .ok (.aload_n 0, 1) := by decide +kernel
theorem dX4_pointedBy_8 : decode cX4_pointedBy 8 = .ok (.getfield 34, 3) := by decide +kernel
theorem dX4_pointedBy_11 : decode cX4_pointedBy 11 = .ok (.getfield 40, 3) := by decide +kernel
theorem dX4_pointedBy_14 : decode cX4_pointedBy 14 = .ok (.if_icmp .ge 63, 3) := by decide +kernel
theorem dX4_pointedBy_17 : decode cX4_pointedBy 17 = .ok (.iload_n 1, 1) := by decide +kernel
theorem dX4_pointedBy_18 : decode cX4_pointedBy 18 = .ok (.iload 4, 2) := by decide +kernel
theorem dX4_pointedBy_20 : decode cX4_pointedBy 20 = .ok (.ishr, 1) := by decide +kernel
theorem dX4_pointedBy_21 : decode cX4_pointedBy 21 = .ok (.iconst 1, 1) := by decide +kernel
theorem dX4_pointedBy_22 : decode cX4_pointedBy 22 = .ok (.iand, 1) := by decide +kernel
theorem dX4_pointedBy_23 : decode cX4_pointedBy 23 = .ok (.iconst 1, 1) := by decide +kernel
theorem dX4_pointedBy_24 : decode cX4_pointedBy 24 = .ok (.if_icmp .ne 7, 3) := by decide +kernel
theorem dX4_pointedBy_27 : decode cX4_pointedBy 27 = .ok (.iconst 1, 1) := by decide +kernel
theorem dX4_pointedBy_28 : decode cX4_pointedBy 28 = .ok (.goto 4, 3) := by decide +kernel
theorem dX4_pointedBy_31 : decode cX4_pointedBy 31 = .ok (.iconst 0, 1) := by decide +kernel
theorem dX4_pointedBy_32 : decode cX4_pointedBy 32 = .ok (.istore 5, 2) := by decide +kernel
theorem dX4_pointedBy_34 : decode cX4_pointedBy 34 = .ok (.iload 5, 2) := by decide +kernel
theorem dX4_pointedBy_36 : decode cX4_pointedBy 36 = .ok (.ifCond .eq 35, 3) := by decide +kernel
theorem dX4_pointedBy_39 : decode cX4_pointedBy 39 = .ok (.iload_n 3, 1) := by decide +kernel
theorem dX4_pointedBy_40 : decode cX4_pointedBy 40 = .ok (.iconst (-1), 1) := by decide +kernel
theorem dX4_pointedBy_41 : decode cX4_pointedBy 41 = .ok (.if_icmp .eq 27, 3) := by decide +kernel
theorem dX4_pointedBy_44 : decode cX4_pointedBy 44 = .ok (.iload_n 2, 1) := by decide +kernel
theorem dX4_pointedBy_45 : decode cX4_pointedBy 45 = .ok (.iconst (-1), 1) := by decide +kernel
theorem dX4_pointedBy_46 : decode cX4_pointedBy 46 = .ok (.if_icmp .eq 25, 3) := by decide +kernel
theorem dX4_pointedBy_49 : decode cX4_pointedBy 49 = .ok (.aload_n 0, 1) := by decide +kernel
theorem dX4_pointedBy_50 : decode cX4_pointedBy 50 = .ok (.iload_n 2, 1) := by decide +kernel
theorem dX4_pointedBy_51 : decode cX4_pointedBy 51 = .ok (.aload_n 0, 1) := by decide +kernel
theorem dX4_pointedBy_52 : decode cX4_pointedBy 52 = .ok (.iload 4, 2) := by decide +kernel
theorem dX4_pointedBy_54 : decode cX4_pointedBy 54 = .ok (.invokevirtual 45, 3) := by decide +kernel
theorem dX4_pointedBy_57 : decode cX4_pointedBy 57 = .ok (.aload_n 0, 1) := by decide +kernel
theorem dX4_pointedBy_58 : decode cX4_pointedBy 58 = .ok (.iload_n 3, 1) := by decide +kernel
theorem dX4_pointedBy_59 : decode cX4_pointedBy 59 = .ok (.invokevirtual 45, 3) := by decide +kernel
theorem dX4_pointedBy_62 : decode cX4_pointedBy 62 = .ok (.invokevirtual 57, 3) := by decide +kernel
theorem dX4_pointedBy_65 : decode cX4_pointedBy 65 = .ok (.ifCond .eq 6, 3) := by decide +kernel
theorem dX4_pointedBy_68 : decode cX4_pointedBy 68 = .ok (.iload 4, 2) := by decide +kernel
theorem dX4_pointedBy_70 : decode cX4_pointedBy 70 = .ok (.istore_n 3, 1) := by decide +kernel
theorem dX4_pointedBy_71 : decode cX4_pointedBy 71 = .ok (.iinc 4 1, 3) := by decide +kernel
theorem dX4_pointedBy_74 : decode cX4_pointedBy 74 = .ok (.goto (-69), 3) := by decide +kernel
theorem dX4_pointedBy_77 : decode cX4_pointedBy 77 = .ok (.iload_n 3, 1) := by decide +kernel
theorem dX4_pointedBy_78 : decode cX4_pointedBy 78 = .ok (.ireturn, 1) := by decide +kernel
set_option maxRecDepth 20000 in
theorem tm_4_53 : tMet TB0 4 53 = some (1, M_X4_pointedBy) := rfl
set_option maxRecDepth 20000 in
theorem tm_4_57 : tMet TB0 4 57 = some (0, M_X2_downLikesMore) := rfl
/-! TRADE: going round -/
def itZ (g : Int → Int) (s x : Int) : Nat → Int
  | 0 => x
  | k + 1 => ptZ g s (itZ g s x k)
theorem it_s {g : Int → Int} {s x i : Int} (h : 0 ≤ i) : itZ g s x (i + 1).toNat = ptZ g s (itZ g s x i.toNat) := by rw [show (i + 1).toNat = i.toNat + 1 by omega]; rfl
theorem it_in {g : Int → Int} {s x : Int} (o : okS g s) (h0 : 0 ≤ x) (h1 : x < 6) (p : hasZ s x) (k : Nat) : (0 ≤ itZ g s x k ∧ itZ g s x k < 6) ∧ hasZ s (itZ g s x k) := by
  cases k with
  | zero => exact ⟨⟨h0, h1⟩, p⟩
  | succ k =>
    have q := pt_in o ⟨x, ⟨h0, h1⟩, p⟩ (itZ g s x k)
    have := o.1
    exact ⟨⟨q.1.1, by show ptZ g s (itZ g s x k) < 6; omega⟩, q.2⟩
theorem it_add (g : Int → Int) (s x : Int) (a b : Nat) : itZ g s x (a + b) = itZ g s (itZ g s x a) b := by
  induction b with
  | zero => rfl
  | succ b ih => show ptZ g s (itZ g s x (a + b)) = ptZ g s _; rw [ih]
def cyc (g : Int → Int) (s x : Int) : Prop := ∃ p : Nat, (1 ≤ p ∧ p ≤ 7) ∧ itZ g s x p = x
theorem cyc_6 {g : Int → Int} {s x : Int} (o : okS g s) (h0 : 0 ≤ x) (h1 : x < 6) (p : hasZ s x) : cyc g s (itZ g s x 6) := by
  obtain ⟨i, j, hij, hj, e⟩ := fb_twice (m := 6) (n := 7) (f := fun k => (itZ g s x k).toNat) (fun k _ => by have := (it_in o h0 h1 p k).1; omega) (by omega)
  have e2 : itZ g s x i = itZ g s x j := by
    have a := (it_in o h0 h1 p i).1
    have b := (it_in o h0 h1 p j).1
    have e : (itZ g s x i).toNat = (itZ g s x j).toNat := e
    omega
  refine ⟨j - i, by omega, ?_⟩
  rw [← it_add, show 6 + (j - i) = j + (6 - i) by omega, it_add, ← e2, ← it_add, show i + (6 - i) = 6 by omega]
theorem cyc_m {g : Int → Int} {s x : Int} {p : Nat} (h : itZ g s x p = x) (j : Nat) : itZ g s x (p * j) = x := by
  induction j with
  | zero => rfl
  | succ j ih => rw [Nat.mul_succ, it_add, ih, h]
/-- C holds the first i who are met from x on, all of them others -/
def orb (g : Int → Int) (s x : Int) (i : Nat) (c : Int) : Prop := (0 ≤ c ∧ c < 64) ∧ (∀ k, 0 ≤ k → k < 6 → (hasZ c k ↔ ∃ j : Nat, j < i ∧ itZ g s x j = k)) ∧ ∀ a b : Nat, a < b → b < i → itZ g s x a ≠ itZ g s x b
theorem orb_0 (g : Int → Int) (s x : Int) : orb g s x 0 0 := ⟨⟨by omega, by omega⟩, fun k u v => ⟨fun p => absurd p (has_0 k), fun ⟨j, hj, _⟩ => absurd hj (by omega)⟩, fun a b h h2 => absurd h2 (by omega)⟩
theorem orb_s {g : Int → Int} {s x c : Int} {i : Nat} (H : orb g s x i c) (b0 : 0 ≤ itZ g s x i ∧ itZ g s x i < 6) (n : ¬ hasZ c (itZ g s x i)) : orb g s x (i + 1) (orZ c (shlZ 1 (itZ g s x i))) := by
  refine ⟨or_b H.1.2 b0.2, fun k u v => ?_, fun a b h h2 e => ?_⟩
  · rw [or_has, H.2.1 k u v, show shlZ 1 (itZ g s x i) = b1 (itZ g s x i) from rfl, has_b1 b0.1 u]
    constructor
    · rintro (⟨j, hj, e⟩ | e)
      · exact ⟨j, by omega, e⟩
      · exact ⟨i, by omega, e.symm⟩
    · rintro ⟨j, hj, e⟩
      by_cases q : j = i
      · subst q; exact Or.inr e.symm
      · exact Or.inl ⟨j, by omega, e⟩
  · by_cases q : b = i
    · subst q
      exact n ((H.2.1 _ b0.1 b0.2).mpr ⟨a, h, e⟩)
    · exact H.2.2 a b h (by omega) e
theorem orb_6 {g : Int → Int} {s x c : Int} {i : Nat} (o : okS g s) (h0 : 0 ≤ x) (h1 : x < 6) (p : hasZ s x) (H : orb g s x i c) : i ≤ 6 := fb_holes 6 i (fun k => (itZ g s x k).toNat) (fun k _ => by have := (it_in o h0 h1 p k).1; omega) (fun a b h h2 e => by
  have q1 := (it_in o h0 h1 p a).1
  have q2 := (it_in o h0 h1 p b).1
  have e : (itZ g s x a).toNat = (itZ g s x b).toNat := e
  exact H.2.2 a b h h2 (by omega))
theorem orb_f {g : Int → Int} {s x c : Int} (o : okS g s) (h0 : 0 ≤ x) (h1 : x < 6) (p : hasZ s x) (H : orb g s x 6 c) : hasZ c (itZ g s x 6) := by
  have q6 := (it_in o h0 h1 p 6).1
  obtain ⟨j, hj, e⟩ := fb_onto (n := 6) (f := fun k => (itZ g s x k).toNat) (fun k _ => by have := (it_in o h0 h1 p k).1; omega) (fun a b h h2 e => by
    have q1 := (it_in o h0 h1 p a).1
    have q2 := (it_in o h0 h1 p b).1
    have e : (itZ g s x a).toNat = (itZ g s x b).toNat := e
    exact H.2.2 a b h h2 (by omega)) (y := (itZ g s x 6).toNat) (by omega)
  have qj := (it_in o h0 h1 p j).1
  have e : (itZ g s x j).toNat = (itZ g s x 6).toNat := e
  exact (H.2.1 _ q6.1 q6.2).mpr ⟨j, hj, by omega⟩
theorem orb_r {g : Int → Int} {s x c : Int} {i : Nat} (o : okS g s) (h0 : 0 ≤ x) (h1 : x < 6) (p : hasZ s x) (cy : cyc g s x) (H : orb g s x i c) (q : hasZ c (itZ g s x i)) : ring g s c := by
  have bi := it_in o h0 h1 p
  obtain ⟨j0, hj0, -⟩ := (H.2.1 _ (bi i).1.1 (bi i).1.2).mp q
  have all : ∀ n : Nat, hasZ c (itZ g s x n) := by
    intro n
    induction n with
    | zero => exact (H.2.1 _ h0 h1).mpr ⟨0, by omega, rfl⟩
    | succ n ih =>
      obtain ⟨j, hj, e⟩ := (H.2.1 _ (bi n).1.1 (bi n).1.2).mp ih
      show hasZ c (ptZ g s (itZ g s x n))
      rw [← e]
      show hasZ c (itZ g s x (j + 1))
      by_cases z : j + 1 = i
      · rw [z]; exact q
      · exact (H.2.1 _ (bi (j + 1)).1.1 (bi (j + 1)).1.2).mpr ⟨j + 1, by omega, rfl⟩
  refine ⟨H.1, ⟨x, ⟨h0, h1⟩, all 0⟩, fun k u v pk => ?_, fun k u v pk => ?_, fun c' d1 d2 d3 d4 k u v pk => ?_⟩
  · obtain ⟨j, hj, e⟩ := (H.2.1 k u v).mp pk
    rw [← e]; exact (bi j).2
  · obtain ⟨j, hj, e⟩ := (H.2.1 k u v).mp pk
    rw [← e]; exact all (j + 1)
  · obtain ⟨y, hy, py⟩ := d2
    obtain ⟨j, hj, e⟩ := (H.2.1 y hy.1 hy.2).mp (d3 y hy.1 hy.2 py)
    have on : ∀ n : Nat, hasZ c' (itZ g s x (j + n)) := by
      intro n
      induction n with
      | zero => rw [Nat.add_zero, e]; exact py
      | succ n ih => exact d4 _ (bi (j + n)).1.1 (bi (j + n)).1.2 ih
    obtain ⟨p0, hp, ep⟩ := cy
    have back : hasZ c' x := by
      have := on (p0 * j - j)
      rw [show j + (p0 * j - j) = p0 * j by have := Nat.le_mul_of_pos_left j hp.1; omega, cyc_m ep j] at this
      exact this
    obtain ⟨j2, hj2, e2⟩ := (H.2.1 k u v).mp pk
    rw [← e2]
    clear e2 hj2
    induction j2 with
    | zero => exact back
    | succ n ih => exact d4 _ (bi n).1.1 (bi n).1.2 ih
theorem or_if {c z k A B : Int} (h0 : 0 ≤ z) (h1 : 0 ≤ k) : (if hasZ (orZ c (shlZ 1 z)) k then A else B) = if k = z then A else if hasZ c k then A else B := by
  have e : hasZ (orZ c (shlZ 1 z)) k ↔ hasZ c k ∨ k = z := by rw [or_has, show shlZ 1 z = b1 z from rfl, has_b1 h0 h1]
  by_cases q : k = z
  · rw [if_pos q, if_pos (e.mpr (Or.inr q))]
  · rw [if_neg q]
    by_cases q2 : hasZ c k
    · rw [if_pos q2, if_pos (e.mpr (Or.inl q2))]
    · rw [if_neg q2, if_neg (fun w => (e.mp w).elim q2 q)]
def gtC (h : mH) (y : Nat) (r : Int → Int) (n : Int) : Prop := (∀ k : Int, 0 ≤ k → k < 6 → rI h (y + 1) k = r k) ∧ rI h y 2 = n
theorem gtC_c {S : Nat → Nat → Prop} {h h1 : mH} {y : Nat} {r : Int → Int} {n : Int} (f : frm S h h1) (z : ∀ a k, (a = y ∧ k = 2) ∨ a = y + 1 → ¬ S a k) (H : gtC h y r n) : gtC h1 y r n := ⟨fun k a c => (frm_r f (z _ _ (by omega))).trans (H.1 k a c), (frm_r f (z _ _ (by omega))).trans H.2⟩
def stS (g : Int → Int) (s : Int) : Prop := (0 ≤ s ∧ s < 64) ∧ ∀ k, 0 ≤ k → k < 6 → (hasZ s k ↔ k < nd g ∧ dm g k ≠ -1)
theorem stS_ok {g : Int → Int} {s : Int} (n : 0 ≤ nd g ∧ nd g ≤ 6) (h : stS g s) : okS g s := ⟨n, h.1, fun k a c p => (h.2 k a c).mp p⟩
theorem stS_u {g : Int → Int} {s s' : Int} (h : stS g s) (h' : stS g s') : s = s' := set_ext h.1 h'.1 (fun k a c p => (h'.2 k a c).mpr ((h.2 k a c).mp p)) (fun k a c p => (h.2 k a c).mpr ((h'.2 k a c).mp p))
/-- what has been done of a trade -/
def preT (g : Int → Int) (s0 s : Int) (n : Nat) (r : Int → Int) : Prop := ∀ (m : Nat) (q : Int → Int), ttR g m s q → ttR g (n + m) s0 (fun k => if hasZ s k then q k else r k)
theorem preT_0 {g : Int → Int} {s : Int} (o : okS g s) (r : Int → Int) : preT g s s 0 r := fun m q h => by
  rw [Nat.zero_add]
  exact tt_cg m s q _ o (fun k u v p => (if_pos p).symm) h
theorem preT_s {g : Int → Int} {s0 s c : Int} {n : Nat} {r : Int → Int} (o0 : okS g s0) (o : okS g s) (sb : sbs s s0) (H : preT g s0 s n r) (w : ring g s c) : preT g s0 (subS s c) (n + 1) (mixR g s c r) := fun m q h => by
  have t := H (m + 1) _ (tt_add o w h)
  rw [show n + (m + 1) = n + 1 + m by omega] at t
  refine tt_cg _ s0 _ _ o0 (fun k u v p => ?_) t
  have sh := subS_h (k := k) o.2.1 w.1 u v
  unfold mixR
  by_cases q1 : hasZ c k
  · rw [if_pos (w.2.2.1 k u v q1), if_pos q1, if_neg (fun z => (sh.mp z).2 q1), if_pos q1]
  · by_cases q2 : hasZ s k
    · rw [if_pos q2, if_neg q1, if_pos (sh.mpr ⟨q2, q1⟩)]
    · rw [if_neg q2, if_neg (fun z => q2 (sh.mp z).1), if_neg q1]
theorem preT_e {g : Int → Int} {s0 s : Int} {n : Nat} {r : Int → Int} (o0 : okS g s0) (H : preT g s0 s n r) (e : ¬ nem s) : ttR g n s0 r := by
  have t := H 0 r e
  refine tt_cg _ s0 _ _ o0 (fun k u v p => ?_) t
  exact if_neg (fun z => e ⟨k, ⟨u, v⟩, z⟩)
def exI (h : mH) (y : Nat) (g : Int → Int) (s0 s i : Int) : Prop := ∃ (r : Int → Int) (n : Int), gtC h y r n ∧ preT g s0 s n.toNat r ∧ (cardZ s + i ≤ 6 ∧ 0 ≤ n ∧ n ≤ i) ∧ okS g s ∧ sbs s s0
def exE (h : mH) (y : Nat) (g : Int → Int) : Prop := ∃ (s0 : Int) (r : Int → Int) (n : Int), stS g s0 ∧ gtC h y r n ∧ ttR g n.toNat s0 r ∧ (0 ≤ n ∧ n ≤ 6)
theorem card_0 {s : Int} (h : cardZ s ≤ 0) : ¬ nem s := fun ⟨k, hk, p⟩ => by
  have := card_lt (a := 0) (b := s) (fun k _ _ z => absurd z (has_0 k)) hk.1 hk.2 p (has_0 k)
  have := cardZ_b 0
  omega
set_option maxHeartbeats 400000 in
theorem zp_X2_downLikesMoreS {ad : mA} {dd : Nat} {h : mH} {Q : mQ} {f : Nat} {g : Int → Int} (hk : fgk h f) (HF : isF h f g)  (d : Int) (d_r : -2147483648 ≤ d ∧ d < 2147483648) (u : Int) (u_r : -2147483648 ≤ u ∧ u < 2147483648) (o : Int) (o_r : -2147483648 ≤ o ∧ o < 2147483648) (p1 : 0 ≤ d ∧ d < nd g) (p2 : 0 ≤ u ∧ u < nu g) (p3 : 0 ≤ o ∧ o < nu g) (kq : Q (some (.int (zI (bZ (scU g d o < scU g d u))))) h) : mCal TB0 ad (dd + 3) M_X2_downLikesMore [.ref f, .int (zI d), .int (zI u), .int (zI o)] h 0 0 Q := by
  refine ⟨Nat.le_of_ble_eq_true rfl, ?_⟩
  show mEv TB0 ad M_X2_downLikesMore (dd + 3) (0, 0) (mCal TB0 ad (dd + 2)) (fun v h' z => z.1 = 0 ∧ Q v h') 0 [some (.ref f), some (.int (zI d)), some (.int (zI u)), some (.int (zI o)), none] [] h (0, 0)
  have w1 := isF_n HF
  have w2 := isF_nd HF
  have w3 := isF_nu HF
  have w4 := isF_nc HF
  have W := isF_w HF
  refine e_aload_n dX2_downLikesMore_0 rfl ?_
  refine e_iload_n dX2_downLikesMore_1 rfl ?_
  refine e_iload_n dX2_downLikesMore_2 rfl ?_
  refine e_callV [.int _, .int _] dX2_downLikesMore_3 tm_2_71 rfl (Nat.le_of_ble_eq_true rfl) (congrArg Prod.fst (fg_s0 hk)) (Nat.le_of_ble_eq_true rfl) (Nat.le_refl _) (Nat.le_refl _) rfl (zp_X2_fitOf hk HF d ⟨by omega, by omega⟩ u ⟨by omega, by omega⟩ ?_)
  have y1 := fitC_s g d u
  refine e_aload_n dX2_downLikesMore_6 rfl ?_
  refine e_iload_n dX2_downLikesMore_7 rfl ?_
  refine e_iload_n dX2_downLikesMore_8 rfl ?_
  refine e_callV [.int _, .int _] dX2_downLikesMore_9 tm_2_71 rfl (Nat.le_of_ble_eq_true rfl) (congrArg Prod.fst (fg_s0 hk)) (Nat.le_of_ble_eq_true rfl) (Nat.le_refl _) (Nat.le_refl _) rfl (zp_X2_fitOf hk HF d ⟨by omega, by omega⟩ o ⟨by omega, by omega⟩ ?_)
  have y2 := fitC_s g d o
  refine z_isub dX2_downLikesMore_12 ?_
  refine e_istore (L' := [_, _, _, _, _]) dX2_downLikesMore_13 (Nat.le_of_ble_eq_true rfl) rfl ?_
  refine e_iload dX2_downLikesMore_15 rfl ?_
  refine z_if_gt 30 dX2_downLikesMore_17 rfl ⟨by omega, by omega⟩ (fun c3 => ?_) (fun c3 => ?_)
  · skip
    refine z_iconst (1) dX2_downLikesMore_30 rfl ?_
    refine e_goto 35 dX2_downLikesMore_31 rfl ?_
    refine z_bret dX2_downLikesMore_35 rfl (Or.inr rfl) ⟨rfl, ?_⟩
    refine z_q1 kq ?_
    unfold scU; omega
  · skip
    refine e_iload dX2_downLikesMore_20 rfl ?_
    refine z_if_ne 34 dX2_downLikesMore_22 rfl ⟨by omega, by omega⟩ (fun c4 => ?_) (fun c4 => ?_)
    · skip
      refine z_iconst (0) dX2_downLikesMore_34 rfl ?_
      refine z_bret dX2_downLikesMore_35 rfl (Or.inl rfl) ⟨rfl, ?_⟩
      refine z_q0 kq ?_
      unfold scU; omega
    · skip
      refine e_iload_n dX2_downLikesMore_25 rfl ?_
      refine e_iload_n dX2_downLikesMore_26 rfl ?_
      refine z_icmp_ge 34 dX2_downLikesMore_27 rfl ⟨by omega, by omega⟩ ⟨by omega, by omega⟩ (fun c5 => ?_) (fun c5 => ?_)
      · skip
        refine z_iconst (0) dX2_downLikesMore_34 rfl ?_
        refine z_bret dX2_downLikesMore_35 rfl (Or.inl rfl) ⟨rfl, ?_⟩
        refine z_q0 kq ?_
        unfold scU; omega
      · skip
        refine z_iconst (1) dX2_downLikesMore_30 rfl ?_
        refine e_goto 35 dX2_downLikesMore_31 rfl ?_
        refine z_bret dX2_downLikesMore_35 rfl (Or.inr rfl) ⟨rfl, ?_⟩
        refine z_q1 kq ?_
        unfold scU; omega
set_option maxHeartbeats 400000 in
theorem zp_X4_pointedBy_1 {ad : mA} {dd : Nat} {h : mH} {Q : mQ} {f : Nat} {g : Int → Int} (hk : fgk h f) (HF : isF h f g)  (s : Int) (s_r : -2147483648 ≤ s ∧ s < 2147483648) (ps : 0 ≤ s ∧ s < 64) (kq : ∀ v : Int, (fst1 (fun k => hasZ s k) (nd g) v) → Q (some (.int (zI v))) h) : mCal TB0 ad (dd + 4) M_X4_pointedBy [.ref f, .int (zI s), .int (zI (-1))] h 0 0 Q := by
  refine ⟨Nat.le_of_ble_eq_true rfl, ?_⟩
  show mEv TB0 ad M_X4_pointedBy (dd + 4) (0, 0) (mCal TB0 ad (dd + 3)) (fun v h' z => z.1 = 0 ∧ Q v h') 0 [some (.ref f), some (.int (zI s)), some (.int (zI (-1))), none, none, none] [] h (0, 0)
  have w1 := isF_n HF
  have w2 := isF_nd HF
  have w3 := isF_nu HF
  have w4 := isF_nc HF
  have W := isF_w HF
  refine z_iconst (-1) dX4_pointedBy_0 rfl ?_
  refine e_istore_n (L' := [_, _, _, _, _, _]) dX4_pointedBy_1 (Nat.le_of_ble_eq_true rfl) rfl ?_
  refine z_iconst (0) dX4_pointedBy_2 rfl ?_
  refine e_istore (L' := [_, _, _, _, _, _]) dX4_pointedBy_3 (Nat.le_of_ble_eq_true rfl) rfl ?_
  have lp1 : ∀ (n1 : Nat) (b e : Int), (nd g - e).toNat = n1 → (0 ≤ e ∧ e ≤ nd g) → (fst1 (fun k => hasZ s k) e b) → mEv TB0 ad M_X4_pointedBy (dd + 4) (0, 0) (mCal TB0 ad (dd + 3)) (fun v h' z => z.1 = 0 ∧ Q v h') 5 [some (.ref f), some (.int (zI s)), some (.int (zI (-1))), some (.int (zI b)), some (.int (zI e)), none] [] h (0, 0) := by
    intro n1
    induction n1 using Nat.strongRecOn with
    | ind n1 ih1 =>
    intro b e  hn1  I1 I3
    refine e_iload dX4_pointedBy_5 rfl ?_
    have qb := fst1_b I3
    refine e_aload_n dX4_pointedBy_7 rfl ?_
    refine e_get (.ref (f + 1)) dX4_pointedBy_8 tf_4_34 (congrArg Prod.fst (fg_s0 hk)) (congrArg va_rf (fg_r0_0 hk)) ?_
    refine z_get (nd g) dX4_pointedBy_11 tf_4_40 (congrArg Prod.fst (fg_s1 hk)) (Or.inl rfl) (isF_nd HF) ?_
    have y2 := isF_n HF
    refine z_icmp_ge 77 dX4_pointedBy_14 rfl ⟨by omega, by omega⟩ ⟨by omega, by omega⟩ (fun c3 => ?_) (fun c3 => ?_)
    · skip
      refine e_iload_n dX4_pointedBy_77 rfl ?_
      refine z_iret dX4_pointedBy_78 rfl ⟨rfl, ?_⟩
      refine kq _ ?_
      rw [show nd g = e by omega]; exact I3
    · skip
      refine e_iload_n dX4_pointedBy_17 rfl ?_
      refine e_iload dX4_pointedBy_18 rfl ?_
      refine z_ishr dX4_pointedBy_20 (by omega) (by omega) (by omega) (by omega) ?_
      have y4 := shrZ_b s e
      refine z_iconst (1) dX4_pointedBy_21 rfl ?_
      refine z_iand dX4_pointedBy_22 (by omega) (by omega) (by omega) (by omega) ?_
      have y5 := andZ_b (shrZ s e) 1
      refine z_iconst (1) dX4_pointedBy_23 rfl ?_
      refine z_icmp_ne 31 dX4_pointedBy_24 rfl ⟨by omega, by omega⟩ ⟨by omega, by omega⟩ (fun c6 => ?_) (fun c6 => ?_)
      · skip
        refine z_iconst (0) dX4_pointedBy_31 rfl ?_
        refine e_istore (L' := [_, _, _, _, _, _]) dX4_pointedBy_32 (Nat.le_of_ble_eq_true rfl) rfl ?_
        refine e_iload dX4_pointedBy_34 rfl ?_
        refine z_if_eq 71 dX4_pointedBy_36 rfl ⟨by omega, by omega⟩ (fun c7 => ?_) (fun c7 => ?_)
        · skip
          refine z_iinc (L' := [_, _, _, _, _, _]) dX4_pointedBy_71 rfl rfl ?_
          refine e_goto 5 dX4_pointedBy_74 rfl ?_
          exact mEv_wk (by exact ⟨Or.inr rfl, Or.inr rfl, Or.inr rfl, Or.inr rfl, Or.inr rfl, Or.inl rfl, trivial⟩) (ih1 _ (by omega) b (e + 1)  rfl  (by omega) (by
                    rcases I3 with ⟨z1, z2⟩ | ⟨z1, z2, z3⟩
                    · first | exact Or.inr ⟨by omega, hasZ_i.mp (by assumption), fun k a c => z2 k a (by omega)⟩ | exact Or.inl ⟨z1, allS z2 (fun z => absurd (hasZ_i.mpr z) (by assumption))⟩ | (exfalso; omega)
                    · first | exact Or.inr ⟨by omega, z2, z3⟩ | (exfalso; omega)))
        · exfalso; omega
      · skip
        refine z_iconst (1) dX4_pointedBy_27 rfl ?_
        refine e_goto 32 dX4_pointedBy_28 rfl ?_
        refine e_istore (L' := [_, _, _, _, _, _]) dX4_pointedBy_32 (Nat.le_of_ble_eq_true rfl) rfl ?_
        refine e_iload dX4_pointedBy_34 rfl ?_
        refine z_if_eq 71 dX4_pointedBy_36 rfl ⟨by omega, by omega⟩ (fun c8 => ?_) (fun c8 => ?_)
        · exfalso; omega
        · skip
          refine e_iload_n dX4_pointedBy_39 rfl ?_
          refine z_iconst (-1) dX4_pointedBy_40 rfl ?_
          refine z_icmp_eq 68 dX4_pointedBy_41 rfl ⟨by omega, by omega⟩ ⟨by omega, by omega⟩ (fun c9 => ?_) (fun c9 => ?_)
          · skip
            refine e_iload dX4_pointedBy_68 rfl ?_
            refine e_istore_n (L' := [_, _, _, _, _, _]) dX4_pointedBy_70 (Nat.le_of_ble_eq_true rfl) rfl ?_
            refine z_iinc (L' := [_, _, _, _, _, _]) dX4_pointedBy_71 rfl rfl ?_
            refine e_goto 5 dX4_pointedBy_74 rfl ?_
            exact mEv_wk (by exact ⟨Or.inr rfl, Or.inr rfl, Or.inr rfl, Or.inr rfl, Or.inr rfl, Or.inl rfl, trivial⟩) (ih1 _ (by omega) e (e + 1)  rfl  (by omega) (by
                      rcases I3 with ⟨z1, z2⟩ | ⟨z1, z2, z3⟩
                      · first | exact Or.inr ⟨by omega, hasZ_i.mp (by assumption), fun k a c => z2 k a (by omega)⟩ | exact Or.inl ⟨z1, allS z2 (fun z => absurd (hasZ_i.mpr z) (by assumption))⟩ | (exfalso; omega)
                      · first | exact Or.inr ⟨by omega, z2, z3⟩ | (exfalso; omega)))
          · skip
            refine e_iload_n dX4_pointedBy_44 rfl ?_
            refine z_iconst (-1) dX4_pointedBy_45 rfl ?_
            refine z_icmp_eq 71 dX4_pointedBy_46 rfl ⟨by omega, by omega⟩ ⟨by omega, by omega⟩ (fun c10 => ?_) (fun c10 => ?_)
            · skip
              refine z_iinc (L' := [_, _, _, _, _, _]) dX4_pointedBy_71 rfl rfl ?_
              refine e_goto 5 dX4_pointedBy_74 rfl ?_
              exact mEv_wk (by exact ⟨Or.inr rfl, Or.inr rfl, Or.inr rfl, Or.inr rfl, Or.inr rfl, Or.inl rfl, trivial⟩) (ih1 _ (by omega) b (e + 1)  rfl  (by omega) (by
                        rcases I3 with ⟨z1, z2⟩ | ⟨z1, z2, z3⟩
                        · first | exact Or.inr ⟨by omega, hasZ_i.mp (by assumption), fun k a c => z2 k a (by omega)⟩ | exact Or.inl ⟨z1, allS z2 (fun z => absurd (hasZ_i.mpr z) (by assumption))⟩ | (exfalso; omega)
                        · first | exact Or.inr ⟨by omega, z2, z3⟩ | (exfalso; omega)))
            · exfalso; omega
  exact lp1 _ (-1) 0  rfl  (by omega) (Or.inl ⟨rfl, fun k a c => by omega⟩)
set_option maxHeartbeats 1000000 in
theorem zp_X4_pointedBy {ad : mA} {dd : Nat} {h : mH} {Q : mQ} {f : Nat} {g : Int → Int} (hk : fgk h f) (HF : isF h f g)  (s : Int) (s_r : -2147483648 ≤ s ∧ s < 2147483648) (d : Int) (d_r : -2147483648 ≤ d ∧ d < 2147483648) (ps : okS g s) (p1 : 0 ≤ d ∧ d < nd g) (kq : Q (some (.int (zI (ptZ g s d)))) h) : mCal TB0 ad (dd + 4) M_X4_pointedBy [.ref f, .int (zI s), .int (zI d)] h 0 0 Q := by
  refine ⟨Nat.le_of_ble_eq_true rfl, ?_⟩
  show mEv TB0 ad M_X4_pointedBy (dd + 4) (0, 0) (mCal TB0 ad (dd + 3)) (fun v h' z => z.1 = 0 ∧ Q v h') 0 [some (.ref f), some (.int (zI s)), some (.int (zI d)), none, none, none] [] h (0, 0)
  have w1 := isF_n HF
  have w2 := isF_nd HF
  have w3 := isF_nu HF
  have w4 := isF_nc HF
  have W := isF_w HF
  have o1 := ps.2.1
  refine z_iconst (-1) dX4_pointedBy_0 rfl ?_
  refine e_istore_n (L' := [_, _, _, _, _, _]) dX4_pointedBy_1 (Nat.le_of_ble_eq_true rfl) rfl ?_
  refine z_iconst (0) dX4_pointedBy_2 rfl ?_
  refine e_istore (L' := [_, _, _, _, _, _]) dX4_pointedBy_3 (Nat.le_of_ble_eq_true rfl) rfl ?_
  have lp1 : ∀ (n1 : Nat) (b e : Int), (nd g - e).toNat = n1 → (0 ≤ e ∧ e ≤ nd g) → (fmax (fun k => hasZ s k) (fun e => scU g d (dm g e)) e b) → mEv TB0 ad M_X4_pointedBy (dd + 4) (0, 0) (mCal TB0 ad (dd + 3)) (fun v h' z => z.1 = 0 ∧ Q v h') 5 [some (.ref f), some (.int (zI s)), some (.int (zI d)), some (.int (zI b)), some (.int (zI e)), none] [] h (0, 0) := by
    intro n1
    induction n1 using Nat.strongRecOn with
    | ind n1 ih1 =>
    intro b e  hn1  I1 I3
    refine e_iload dX4_pointedBy_5 rfl ?_
    have qb := fmax_b I3
    refine e_aload_n dX4_pointedBy_7 rfl ?_
    refine e_get (.ref (f + 1)) dX4_pointedBy_8 tf_4_34 (congrArg Prod.fst (fg_s0 hk)) (congrArg va_rf (fg_r0_0 hk)) ?_
    refine z_get (nd g) dX4_pointedBy_11 tf_4_40 (congrArg Prod.fst (fg_s1 hk)) (Or.inl rfl) (isF_nd HF) ?_
    have y2 := isF_n HF
    refine z_icmp_ge 77 dX4_pointedBy_14 rfl ⟨by omega, by omega⟩ ⟨by omega, by omega⟩ (fun c3 => ?_) (fun c3 => ?_)
    · skip
      refine e_iload_n dX4_pointedBy_77 rfl ?_
      refine z_iret dX4_pointedBy_78 rfl ⟨rfl, ?_⟩
      refine z_q kq ?_
      rw [show b = ptZ g s d from pt_u (by omega) (by rw [show nd g = e by omega]; exact I3)]
    · skip
      refine e_iload_n dX4_pointedBy_17 rfl ?_
      refine e_iload dX4_pointedBy_18 rfl ?_
      refine z_ishr dX4_pointedBy_20 (by omega) (by omega) (by omega) (by omega) ?_
      have y4 := shrZ_b s e
      refine z_iconst (1) dX4_pointedBy_21 rfl ?_
      refine z_iand dX4_pointedBy_22 (by omega) (by omega) (by omega) (by omega) ?_
      have y5 := andZ_b (shrZ s e) 1
      refine z_iconst (1) dX4_pointedBy_23 rfl ?_
      refine z_icmp_ne 31 dX4_pointedBy_24 rfl ⟨by omega, by omega⟩ ⟨by omega, by omega⟩ (fun c6 => ?_) (fun c6 => ?_)
      · skip
        refine z_iconst (0) dX4_pointedBy_31 rfl ?_
        refine e_istore (L' := [_, _, _, _, _, _]) dX4_pointedBy_32 (Nat.le_of_ble_eq_true rfl) rfl ?_
        refine e_iload dX4_pointedBy_34 rfl ?_
        refine z_if_eq 71 dX4_pointedBy_36 rfl ⟨by omega, by omega⟩ (fun c7 => ?_) (fun c7 => ?_)
        · skip
          refine z_iinc (L' := [_, _, _, _, _, _]) dX4_pointedBy_71 rfl rfl ?_
          refine e_goto 5 dX4_pointedBy_74 rfl ?_
          exact mEv_wk (by exact ⟨Or.inr rfl, Or.inr rfl, Or.inr rfl, Or.inr rfl, Or.inr rfl, Or.inl rfl, trivial⟩) (ih1 _ (by omega) b (e + 1)  rfl  (by omega) (by first | exact fmax_no I3 (fun z => absurd (hasZ_i.mpr z) (by assumption)) | exact fmax_new I3 (by omega) (hasZ_i.mp (by assumption)) (Or.inl (by omega)) | exact fmax_new I3 (by omega) (hasZ_i.mp (by assumption)) (Or.inr (by show scU g d (dm g b) < scU g d (dm g e); rw [← u1, ← u2]; assumption)) | exact fmax_keep I3 (by omega) (by show scU g d (dm g e) ≤ scU g d (dm g b); rw [← u1, ← u2]; omega)))
        · exfalso; omega
      · skip
        refine z_iconst (1) dX4_pointedBy_27 rfl ?_
        refine e_goto 32 dX4_pointedBy_28 rfl ?_
        refine e_istore (L' := [_, _, _, _, _, _]) dX4_pointedBy_32 (Nat.le_of_ble_eq_true rfl) rfl ?_
        refine e_iload dX4_pointedBy_34 rfl ?_
        refine z_if_eq 71 dX4_pointedBy_36 rfl ⟨by omega, by omega⟩ (fun c8 => ?_) (fun c8 => ?_)
        · exfalso; omega
        · skip
          refine e_iload_n dX4_pointedBy_39 rfl ?_
          refine z_iconst (-1) dX4_pointedBy_40 rfl ?_
          refine z_icmp_eq 68 dX4_pointedBy_41 rfl ⟨by omega, by omega⟩ ⟨by omega, by omega⟩ (fun c9 => ?_) (fun c9 => ?_)
          · skip
            refine e_iload dX4_pointedBy_68 rfl ?_
            refine e_istore_n (L' := [_, _, _, _, _, _]) dX4_pointedBy_70 (Nat.le_of_ble_eq_true rfl) rfl ?_
            refine z_iinc (L' := [_, _, _, _, _, _]) dX4_pointedBy_71 rfl rfl ?_
            refine e_goto 5 dX4_pointedBy_74 rfl ?_
            exact mEv_wk (by exact ⟨Or.inr rfl, Or.inr rfl, Or.inr rfl, Or.inr rfl, Or.inr rfl, Or.inl rfl, trivial⟩) (ih1 _ (by omega) e (e + 1)  rfl  (by omega) (by first | exact fmax_no I3 (fun z => absurd (hasZ_i.mpr z) (by assumption)) | exact fmax_new I3 (by omega) (hasZ_i.mp (by assumption)) (Or.inl (by omega)) | exact fmax_new I3 (by omega) (hasZ_i.mp (by assumption)) (Or.inr (by show scU g d (dm g b) < scU g d (dm g e); rw [← u1, ← u2]; assumption)) | exact fmax_keep I3 (by omega) (by show scU g d (dm g e) ≤ scU g d (dm g b); rw [← u1, ← u2]; omega)))
          · skip
            refine e_iload_n dX4_pointedBy_44 rfl ?_
            refine z_iconst (-1) dX4_pointedBy_45 rfl ?_
            refine z_icmp_eq 71 dX4_pointedBy_46 rfl ⟨by omega, by omega⟩ ⟨by omega, by omega⟩ (fun c10 => ?_) (fun c10 => ?_)
            · exfalso; omega
            · skip
              have he : hasZ s e := hasZ_i.mp (by assumption)
              have oe := ps.2.2 e (by omega) (by omega) he
              have ob := ps.2.2 b (by omega) (by omega) (fmax_p I3 (by omega))
              have u1 := upv_in (g := g) (d := e) (by omega) (by omega)
              have u2 := upv_in (g := g) (d := b) (by omega) (by omega)
              refine e_aload_n dX4_pointedBy_49 rfl ?_
              refine e_iload_n dX4_pointedBy_50 rfl ?_
              refine e_aload_n dX4_pointedBy_51 rfl ?_
              refine e_iload dX4_pointedBy_52 rfl ?_
              refine e_callV [.int _] dX4_pointedBy_54 tm_4_45 rfl (Nat.le_of_ble_eq_true rfl) (congrArg Prod.fst (fg_s0 hk)) (Nat.le_of_ble_eq_true rfl) (Nat.le_refl _) (Nat.le_refl _) rfl (zp_X2_upOf hk HF e ⟨by omega, by omega⟩ ?_)
              have y11 := upv_s (isF_w HF) e
              refine e_aload_n dX4_pointedBy_57 rfl ?_
              refine e_iload_n dX4_pointedBy_58 rfl ?_
              refine e_callV [.int _] dX4_pointedBy_59 tm_4_45 rfl (Nat.le_of_ble_eq_true rfl) (congrArg Prod.fst (fg_s0 hk)) (Nat.le_of_ble_eq_true rfl) (Nat.le_refl _) (Nat.le_refl _) rfl (zp_X2_upOf hk HF b ⟨by omega, by omega⟩ ?_)
              have y12 := upv_s (isF_w HF) b
              refine e_callV [.int _, .int _, .int _] dX4_pointedBy_62 tm_4_57 rfl (Nat.le_of_ble_eq_true rfl) (congrArg Prod.fst (fg_s0 hk)) (Nat.le_of_ble_eq_true rfl) (Nat.le_refl _) (Nat.le_refl _) rfl (zp_X2_downLikesMoreS hk HF d ⟨by omega, by omega⟩ (upv g e) ⟨by omega, by omega⟩ (upv g b) ⟨by omega, by omega⟩ (by omega) (by omega) (by omega) ?_)
              refine z_ifb_eq 71 dX4_pointedBy_65 rfl (fun c13 => ?_) (fun c13 => ?_)
              · skip
                refine z_iinc (L' := [_, _, _, _, _, _]) dX4_pointedBy_71 rfl rfl ?_
                refine e_goto 5 dX4_pointedBy_74 rfl ?_
                exact mEv_wk (by exact ⟨Or.inr rfl, Or.inr rfl, Or.inr rfl, Or.inr rfl, Or.inr rfl, Or.inl rfl, trivial⟩) (ih1 _ (by omega) b (e + 1)  rfl  (by omega) (by first | exact fmax_no I3 (fun z => absurd (hasZ_i.mpr z) (by assumption)) | exact fmax_new I3 (by omega) (hasZ_i.mp (by assumption)) (Or.inl (by omega)) | exact fmax_new I3 (by omega) (hasZ_i.mp (by assumption)) (Or.inr (by show scU g d (dm g b) < scU g d (dm g e); rw [← u1, ← u2]; assumption)) | exact fmax_keep I3 (by omega) (by show scU g d (dm g e) ≤ scU g d (dm g b); rw [← u1, ← u2]; omega)))
              · skip
                refine e_iload dX4_pointedBy_68 rfl ?_
                refine e_istore_n (L' := [_, _, _, _, _, _]) dX4_pointedBy_70 (Nat.le_of_ble_eq_true rfl) rfl ?_
                refine z_iinc (L' := [_, _, _, _, _, _]) dX4_pointedBy_71 rfl rfl ?_
                refine e_goto 5 dX4_pointedBy_74 rfl ?_
                exact mEv_wk (by exact ⟨Or.inr rfl, Or.inr rfl, Or.inr rfl, Or.inr rfl, Or.inr rfl, Or.inl rfl, trivial⟩) (ih1 _ (by omega) e (e + 1)  rfl  (by omega) (by first | exact fmax_no I3 (fun z => absurd (hasZ_i.mpr z) (by assumption)) | exact fmax_new I3 (by omega) (hasZ_i.mp (by assumption)) (Or.inl (by omega)) | exact fmax_new I3 (by omega) (hasZ_i.mp (by assumption)) (Or.inr (by show scU g d (dm g b) < scU g d (dm g e); rw [← u1, ← u2]; assumption)) | exact fmax_keep I3 (by omega) (by show scU g d (dm g e) ≤ scU g d (dm g b); rw [← u1, ← u2]; omega)))
  exact lp1 _ (-1) 0  rfl  (by omega) (fmax_0 _ _ (by omega))
set_option maxHeartbeats 3000000 in
theorem zp_X4_closeRing {ad : mA} {dd : Nat} {h : mH} {Q : mQ} {y f : Nat} {g r : Int → Int} {n : Int} (hk : mkk h y) (hk1 : fgk h f) (HF : isF h f g) (HG : gtC h y r n)  (s : Int) (s_r : -2147483648 ≤ s ∧ s < 2147483648) (ps : okS g s) (pn : nem s) (p3 : 0 ≤ n ∧ n < 100) (pf : y + 4 ≤ f ∨ f + 16 ≤ y) (kq : ∀ v : Int, (ring g s v) → ∀ h1, frm (fun a k => (a = y ∧ k = 2) ∨ a = y + 1) h h1 → (gtC h1 y (mixR g s v r) (n + 1)) → Q (some (.int (zI v))) h1) : mCal TB0 ad (dd + 5) M_X4_closeRing [.ref y, .ref f, .int (zI s)] h 0 0 Q := by
  refine ⟨Nat.le_of_ble_eq_true rfl, ?_⟩
  show mEv TB0 ad M_X4_closeRing (dd + 5) (0, 0) (mCal TB0 ad (dd + 4)) (fun v h' z => z.1 = 0 ∧ Q v h') 0 [some (.ref y), some (.ref f), some (.int (zI s)), none, none, none, none] [] h (0, 0)
  have FR0 : frm (fun a k => (a = y ∧ k = 2) ∨ a = y + 1) h h := frm_0 h
  have w1 := isF_n HF
  have w2 := isF_nd HF
  have w3 := isF_nu HF
  have w4 := isF_nc HF
  have W := isF_w HF
  have o1 := ps.2.1
  refine e_aload_n dX4_closeRing_0 rfl ?_
  refine e_iload_n dX4_closeRing_1 rfl ?_
  refine z_iconst (-1) dX4_closeRing_2 rfl ?_
  refine e_callS [.ref _, .int _, .int _] dX4_closeRing_3 tm_4_53 rfl (Nat.le_of_ble_eq_true rfl) (Nat.le_refl _) (Nat.le_refl _) rfl (zp_X4_pointedBy_1 hk1 HF s ⟨by omega, by omega⟩ (by omega) (fun v1 p2 => ?_))
  have x0 : (0 ≤ v1 ∧ v1 < nd g) ∧ hasZ s v1 := by
    rcases (show fst1 (fun k => hasZ s k) (nd g) v1 by assumption) with ⟨z1, z2⟩ | ⟨z1, z2, z3⟩
    · obtain ⟨k, hk, p⟩ := pn
      exact absurd p (z2 k hk.1 (ps.2.2 k hk.1 hk.2 p).1)
    · exact ⟨z1, z2⟩
  refine e_istore_n (L' := [_, _, _, _, _, _, _]) dX4_closeRing_6 (Nat.le_of_ble_eq_true rfl) rfl ?_
  refine z_iconst (0) dX4_closeRing_7 rfl ?_
  refine e_istore (L' := [_, _, _, _, _, _, _]) dX4_closeRing_8 (Nat.le_of_ble_eq_true rfl) rfl ?_
  have lp3 : ∀ (n3 : Nat) (x i : Int), (6 - i).toNat = n3 → (0 ≤ i ∧ i ≤ 6) → (x = itZ g s v1 i.toNat) → mEv TB0 ad M_X4_closeRing (dd + 5) (0, 0) (mCal TB0 ad (dd + 4)) (fun v h' z => z.1 = 0 ∧ Q v h') 10 [some (.ref y), some (.ref f), some (.int (zI s)), some (.int (zI x)), some (.int (zI i)), none, none] [] h (0, 0) := by
    intro n3
    induction n3 using Nat.strongRecOn with
    | ind n3 ih3 =>
    intro x i  hn3  I1 I2
    refine e_iload dX4_closeRing_10 rfl ?_
    have xi := it_in ps (show 0 ≤ _ from x0.1.1) (by omega) x0.2 i.toNat
    rw [← I2] at xi
    have xn := ps.2.2 x xi.1.1 xi.1.2 xi.2
    refine z_bipush (6) dX4_closeRing_12 rfl ?_
    refine z_icmp_ge 30 dX4_closeRing_14 rfl ⟨by omega, by omega⟩ ⟨by omega, by omega⟩ (fun c4 => ?_) (fun c4 => ?_)
    · skip
      have cy : cyc g s x := by
        have := cyc_6 ps (show 0 ≤ _ from x0.1.1) (by omega) x0.2
        rw [show 6 = i.toNat by omega, ← I2] at this
        exact this
      refine z_iconst (0) dX4_closeRing_30 rfl ?_
      refine e_istore (L' := [_, _, _, _, _, _, _]) dX4_closeRing_31 (Nat.le_of_ble_eq_true rfl) rfl ?_
      refine z_iconst (0) dX4_closeRing_33 rfl ?_
      refine e_istore (L' := [_, _, _, _, _, _, _]) dX4_closeRing_34 (Nat.le_of_ble_eq_true rfl) rfl ?_
      have lp5 : ∀ (n5 : Nat) (c z j : Int) (h5 : mH), (6 - j).toNat = n5 → (mkk h5 y) → (fgk h5 f) → (isF h5 f g) → (frm (fun a k => (a = y ∧ k = 2) ∨ a = y + 1) h h5) → (0 ≤ j ∧ j ≤ 6) → (orb g s x j.toNat c) → (z = itZ g s x j.toNat) → (∀ k : Int, 0 ≤ k → k < 6 → rI h5 (y + 1) k = if hasZ c k then dm g (ptZ g s k) else r k) → (rI h5 y 2 = n) → mEv TB0 ad M_X4_closeRing (dd + 5) (0, 0) (mCal TB0 ad (dd + 4)) (fun v h' z => z.1 = 0 ∧ Q v h') 36 [some (.ref y), some (.ref f), some (.int (zI s)), some (.int (zI z)), some (.int (zI c)), some (.int (zI j)), none] [] h5 (0, 0) := by
        intro n5
        induction n5 using Nat.strongRecOn with
        | ind n5 ih5 =>
        intro c z j h5 hn5 k6 k7 H8 FR9 J1 J2 J3 J4 J5
        refine e_iload dX4_closeRing_36 rfl ?_
        have zi := it_in ps xi.1.1 xi.1.2 xi.2 j.toNat
        rw [← J3] at zi
        have zn := ps.2.2 z zi.1.1 zi.1.2 zi.2
        have cb := J2.1
        refine z_bipush (6) dX4_closeRing_38 rfl ?_
        refine z_icmp_ge 94 dX4_closeRing_40 rfl ⟨by omega, by omega⟩ ⟨by omega, by omega⟩ (fun c10 => ?_) (fun c10 => ?_)
        · skip
          have hq : hasZ c (itZ g s x j.toNat) := by
            rw [show j.toNat = 6 by omega] at J2 ⊢
            exact orb_f ps xi.1.1 xi.1.2 xi.2 J2
          refine e_aload_n dX4_closeRing_94 rfl ?_
          refine e_dup dX4_closeRing_95 rfl ?_
          refine z_get n dX4_closeRing_96 tf_4_18 (congrArg Prod.fst (mk_s0 k6)) (Or.inl rfl) J5 ?_
          refine z_iconst (1) dX4_closeRing_99 rfl ?_
          refine z_iadd dX4_closeRing_100 ?_
          refine z_put dX4_closeRing_101 tf_4_18 (congrArg Prod.fst (mk_s0 k6)) rfl (Or.inl rfl) (fun h11 e12 => ?_)
          have f13 := frm_1 e12
          have k14 := lk_q (frm_s f13) k6
          have k15 := lk_q (frm_s f13) k7
          have H16 := isF_c f13 (fun a k q1 q2 => by omega) H8
          have FR17 := frm_t FR9 (frm_m (S' := (fun a k => (a = y ∧ k = 2) ∨ a = y + 1)) f13 (fun a k q => by omega))
          refine e_iload dX4_closeRing_104 rfl ?_
          refine z_iret dX4_closeRing_106 rfl ⟨rfl, ?_⟩
          exact kq _ (orb_r ps xi.1.1 xi.1.2 xi.2 cy J2 hq) _ FR17 ⟨fun k a e => ((frm_r f13 (by omega))).trans (J4 k a e), (show rI h11 y 2 = (n + 1) from (rI_eq e12 ⟨by omega, by omega⟩))⟩
        · skip
          refine e_iload_n dX4_closeRing_43 rfl ?_
          refine z_iconst (-1) dX4_closeRing_44 rfl ?_
          refine z_icmp_eq 94 dX4_closeRing_45 rfl ⟨by omega, by omega⟩ ⟨by omega, by omega⟩ (fun c18 => ?_) (fun c18 => ?_)
          · exfalso; omega
          · skip
            refine e_iload dX4_closeRing_48 rfl ?_
            refine e_iload_n dX4_closeRing_50 rfl ?_
            refine z_ishr dX4_closeRing_51 (by omega) (by omega) (by omega) (by omega) ?_
            have y19 := shrZ_b c z
            refine z_iconst (1) dX4_closeRing_52 rfl ?_
            refine z_iand dX4_closeRing_53 (by omega) (by omega) (by omega) (by omega) ?_
            have y20 := andZ_b (shrZ c z) 1
            refine z_if_ne 94 dX4_closeRing_54 rfl ⟨by omega, by omega⟩ (fun c21 => ?_) (fun c21 => ?_)
            · skip
              have hq : hasZ c (itZ g s x j.toNat) := by
                rw [← J3]
                have ab := andZ_b (shrZ c z) 1
                exact hasZ_i.mp (by omega)
              refine e_aload_n dX4_closeRing_94 rfl ?_
              refine e_dup dX4_closeRing_95 rfl ?_
              refine z_get n dX4_closeRing_96 tf_4_18 (congrArg Prod.fst (mk_s0 k6)) (Or.inl rfl) J5 ?_
              refine z_iconst (1) dX4_closeRing_99 rfl ?_
              refine z_iadd dX4_closeRing_100 ?_
              refine z_put dX4_closeRing_101 tf_4_18 (congrArg Prod.fst (mk_s0 k6)) rfl (Or.inl rfl) (fun h22 e23 => ?_)
              have f24 := frm_1 e23
              have k25 := lk_q (frm_s f24) k6
              have k26 := lk_q (frm_s f24) k7
              have H27 := isF_c f24 (fun a k q1 q2 => by omega) H8
              have FR28 := frm_t FR9 (frm_m (S' := (fun a k => (a = y ∧ k = 2) ∨ a = y + 1)) f24 (fun a k q => by omega))
              refine e_iload dX4_closeRing_104 rfl ?_
              refine z_iret dX4_closeRing_106 rfl ⟨rfl, ?_⟩
              exact kq _ (orb_r ps xi.1.1 xi.1.2 xi.2 cy J2 hq) _ FR28 ⟨fun k a e => ((frm_r f24 (by omega))).trans (J4 k a e), (show rI h22 y 2 = (n + 1) from (rI_eq e23 ⟨by omega, by omega⟩))⟩
            · skip
              have nz : ¬ hasZ c z := fun w => by have := hasZ_i.mpr w; omega
              refine e_iload dX4_closeRing_57 rfl ?_
              refine z_iconst (1) dX4_closeRing_59 rfl ?_
              refine e_iload_n dX4_closeRing_60 rfl ?_
              refine z_ishl dX4_closeRing_61 (by omega) (by omega) (by omega) (by omega) ?_
              have y29 := shlZ_b 1 z
              refine z_ior dX4_closeRing_62 (by omega) (by omega) (by omega) (by omega) ?_
              have y30 := orZ_b c (shlZ 1 z)
              refine e_istore (L' := [_, _, _, _, _, _, _]) dX4_closeRing_63 (Nat.le_of_ble_eq_true rfl) rfl ?_
              refine e_aload_n dX4_closeRing_65 rfl ?_
              refine e_iload_n dX4_closeRing_66 rfl ?_
              refine e_iload_n dX4_closeRing_67 rfl ?_
              refine e_callS [.ref _, .int _, .int _] dX4_closeRing_68 tm_4_53 rfl (Nat.le_of_ble_eq_true rfl) (Nat.le_refl _) (Nat.le_refl _) rfl (zp_X4_pointedBy k7 H8 s ⟨by omega, by omega⟩ z ⟨by omega, by omega⟩ (by omega) (by omega) ?_)
              refine e_istore (L' := [_, _, _, _, _, _, _]) dX4_closeRing_71 (Nat.le_of_ble_eq_true rfl) rfl ?_
              have pz := pt_in ps pn z
              have up := upv_in (g := g) (d := ptZ g s z) pz.1.1 pz.1.2
              have pw := ps.2.2 (ptZ g s z) pz.1.1 (by omega) pz.2
              refine e_aload_n dX4_closeRing_73 rfl ?_
              refine e_get (.ref (y + 1)) dX4_closeRing_74 tf_4_9 (congrArg Prod.fst (mk_s0 k6)) (congrArg va_rf (mk_r0_0 k6)) ?_
              refine e_iload_n dX4_closeRing_77 rfl ?_
              refine e_aload_n dX4_closeRing_78 rfl ?_
              refine e_iload dX4_closeRing_79 rfl ?_
              refine e_callV [.int _] dX4_closeRing_81 tm_4_45 rfl (Nat.le_of_ble_eq_true rfl) (congrArg Prod.fst (fg_s0 k7)) (Nat.le_of_ble_eq_true rfl) (Nat.le_refl _) (Nat.le_refl _) rfl (zp_X2_upOf k7 H8 (ptZ g s z) ⟨by omega, by omega⟩ ?_)
              have y31 := upv_s (isF_w H8) (ptZ g s z)
              refine z_ist dX4_closeRing_84 (mk_s1 k6) (by decide) (by omega) (by omega) (fun h32 e33 => ?_)
              have f34 := frm_1 e33
              have k35 := lk_q (frm_s f34) k6
              have k36 := lk_q (frm_s f34) k7
              have H37 := isF_c f34 (fun a k q1 q2 => by omega) H8
              have FR38 := frm_t FR9 (frm_m (S' := (fun a k => (a = y ∧ k = 2) ∨ a = y + 1)) f34 (fun a k q => by omega))
              refine e_iload dX4_closeRing_85 rfl ?_
              refine e_istore_n (L' := [_, _, _, _, _, _, _]) dX4_closeRing_87 (Nat.le_of_ble_eq_true rfl) rfl ?_
              refine z_iinc (L' := [_, _, _, _, _, _, _]) dX4_closeRing_88 rfl rfl ?_
              refine e_goto 36 dX4_closeRing_91 rfl ?_
              exact mEv_wk (by exact ⟨Or.inr rfl, Or.inr rfl, Or.inr rfl, Or.inr rfl, Or.inr rfl, Or.inr rfl, Or.inl rfl, trivial⟩) (ih5 _ (by omega) (orZ c (shlZ 1 z)) (ptZ g s z) (j + 1) h32 rfl k35 k36 H37 FR38 (by omega) (by rw [show (j + 1).toNat = j.toNat + 1 by omega, J3]; exact orb_s J2 (by omega) (by rw [← J3]; exact nz)) (by rw [it_s (by omega), ← J3]) (fun k a e => by
                        rw [or_if (by omega) a]
                        by_cases q : k = z
                        · rw [if_pos q, q, ← up]; exact (rI_eq e33 ⟨by omega, by omega⟩)
                        · rw [if_neg q]; exact ((frm_r f34 (by omega))).trans (J4 k a e)) (((frm_r f34 (by omega))).trans J5))
      exact lp5 _ 0 x 0 h rfl hk hk1 HF FR0 (by omega) (orb_0 g s x) rfl (fun k a c => (HG.1 k a c).trans (if_neg (has_0 k)).symm) HG.2
    · skip
      refine e_aload_n dX4_closeRing_17 rfl ?_
      refine e_iload_n dX4_closeRing_18 rfl ?_
      refine e_iload_n dX4_closeRing_19 rfl ?_
      refine e_callS [.ref _, .int _, .int _] dX4_closeRing_20 tm_4_53 rfl (Nat.le_of_ble_eq_true rfl) (Nat.le_refl _) (Nat.le_refl _) rfl (zp_X4_pointedBy hk1 HF s ⟨by omega, by omega⟩ x ⟨by omega, by omega⟩ (by omega) (by omega) ?_)
      refine e_istore_n (L' := [_, _, _, _, _, _, _]) dX4_closeRing_23 (Nat.le_of_ble_eq_true rfl) rfl ?_
      refine z_iinc (L' := [_, _, _, _, _, _, _]) dX4_closeRing_24 rfl rfl ?_
      refine e_goto 10 dX4_closeRing_27 rfl ?_
      exact ih3 _ (by omega) (ptZ g s x) (i + 1)  rfl  (by omega) (by rw [it_s (by omega), ← I2])
  exact lp3 _ v1 0  rfl  (by omega) rfl
