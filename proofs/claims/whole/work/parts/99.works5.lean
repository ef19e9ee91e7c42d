/-! WORKS: the class's table -/
theorem dX9_orderByDay_0 : decode cX9_orderByDay 0 = .ok (.iconst 0, 1) := by decide +kernel
theorem dX9_orderByDay_1 : decode cX9_orderByDay 1 = .ok (.istore_n 2, 1) := by decide +kernel
theorem dX9_orderByDay_2 : decode cX9_orderByDay 2 = .ok (.iconst 0, 1) := by decide +kernel
theorem dX9_orderByDay_3 : decode cX9_orderByDay 3 = .ok (.istore_n 3, 1) := by decide +kernel
theorem dX9_orderByDay_4 : decode cX9_orderByDay 4 = .ok (.iload_n 3, 1) := by decide +kernel
theorem dX9_orderByDay_5 : decode cX9_orderByDay 5 = .ok (.bipush 9, 2) := by decide +kernel
theorem dX9_orderByDay_7 : decode cX9_orderByDay 7 = .ok (.if_icmp .gt 55, 3) := by decide +kernel
theorem dX9_orderByDay_10 : decode cX9_orderByDay 10 = .ok (.iconst 0, 1) := by decide +kernel
theorem dX9_orderByDay_11 : decode cX9_orderByDay 11 = .ok (.istore 4, 2) := by decide +kernel
theorem dX9_orderByDay_13 : decode cX9_orderByDay 13 = .ok (.iload 4, 2) := by decide +kernel
theorem dX9_orderByDay_15 : decode cX9_orderByDay 15 = .ok (.aload_n 1, 1) := by decide +kernel
theorem dX9_orderByDay_16 : decode cX9_orderByDay 16 = .ok (.getfield 56, 3) := by decide +kernel
theorem dX9_orderByDay_19 : decode cX9_orderByDay 19 = .ok (.if_icmp .ge 37, 3) := by decide +kernel
theorem dX9_orderByDay_22 : decode cX9_orderByDay 22 = .ok (.aload_n 1, 1) := by decide +kernel
theorem dX9_orderByDay_23 : decode cX9_orderByDay 23 = .ok (.getfield 61, 3) := by decide +kernel
theorem dX9_orderByDay_26 : decode cX9_orderByDay 26 = .ok (.iload 4, 2) := by decide +kernel
theorem dX9_orderByDay_28 : decode cX9_orderByDay 28 = .ok (.iaload, 1) := by decide +kernel
theorem dX9_orderByDay_29 : decode cX9_orderByDay 29 = .ok (.iload_n 3, 1) := by decide +kernel
theorem dX9_orderByDay_30 : decode cX9_orderByDay 30 = .ok (.if_icmp .ne 20, 3) := by decide +kernel
theorem dX9_orderByDay_33 : decode cX9_orderByDay 33 = .ok (.iload_n 2, 1) := by decide +kernel
theorem dX9_orderByDay_34 : decode cX9_orderByDay 34 = .ok (.bipush 6, 2) := by decide +kernel
theorem dX9_orderByDay_36 : decode cX9_orderByDay 36 = .ok (.if_icmp .ge 14, 3) := by decide +kernel
theorem dX9_orderByDay_39 : decode cX9_orderByDay 39 = .ok (.aload_n 0, 1) := by decide +kernel
theorem dX9_orderByDay_40 : decode cX9_orderByDay 40 = .ok (.getfield 22, 3) := by decide +kernel
theorem dX9_orderByDay_43 : decode cX9_orderByDay 43 = .ok (.iload_n 2, 1) := by decide +kernel
theorem dX9_orderByDay_44 : decode cX9_orderByDay 44 = .ok (.iload 4, 2) := by decide +kernel
theorem dX9_orderByDay_46 : decode cX9_orderByDay 46 = .ok (.iastore, 1) := by decide +kernel
theorem dX9_orderByDay_47 : decode cX9_orderByDay 47 = .ok (.iinc 2 1, 3) := by decide +kernel
theorem dX9_orderByDay_50 : decode cX9_orderByDay 50 = .ok (.iinc 4 1, 3) := by decide +kernel
theorem dX9_orderByDay_53 : decode cX9_orderByDay 53 = .ok (.goto (-40), 3) := by decide +kernel
theorem dX9_orderByDay_56 : decode cX9_orderByDay 56 = .ok (.iinc 3 1, 3) := by decide +kernel
theorem dX9_orderByDay_59 : decode cX9_orderByDay 59 = .ok (.goto (-55), 3) := by decide +kernel
theorem dX9_orderByDay_62 : decode cX9_orderByDay 62 = .ok (.return_, 1) := by decide +kernel
theorem dX9_managesSet_0 : decode cX9_managesSet 0 = .ok (.iconst 0, 1) := by decide +kernel
theorem dX9_managesSet_1 : decode cX9_managesSet 1 = .ok (.istore 4, 2) := by decide +kernel
theorem dX9_managesSet_3 : decode cX9_managesSet 3 = .ok (.iconst (-1), 1) := by decide +kernel
theorem dX9_managesSet_4 : decode cX9_managesSet 4 = .ok (.istore 5, 2) := by decide +kernel
theorem dX9_managesSet_6 : decode cX9_managesSet 6 = .ok (.iconst 0, 1) := by decide +kernel
theorem dX9_managesSet_7 : decode cX9_managesSet 7 = .ok (.istore 6, 2) := by decide +kernel
theorem dX9_managesSet_9 : decode cX9_managesSet 9 = .ok (.iload 6, 2) := by decide +kernel
theorem dX9_managesSet_11 : decode cX9_managesSet 11 = .ok (.aload_n 1, 1) := by decide +kernel
theorem dX9_managesSet_12 : decode cX9_managesSet 12 = .ok (.getfield 56, 3) := by decide +kernel
theorem dX9_managesSet_15 : decode cX9_managesSet 15 = .ok (.if_icmp .ge 73, 3) := by decide +kernel
theorem dX9_managesSet_18 : decode cX9_managesSet 18 = .ok (.iload 6, 2) := by decide +kernel
theorem dX9_managesSet_20 : decode cX9_managesSet 20 = .ok (.bipush 6, 2) := by decide +kernel
theorem dX9_managesSet_22 : decode cX9_managesSet 22 = .ok (.if_icmp .ge 66, 3) := by decide +kernel
theorem dX9_managesSet_25 : decode cX9_managesSet 25 = .ok (.aload_n 0, 1) := by decide +kernel
theorem dX9_managesSet_26 : decode cX9_managesSet 26 = .ok (.getfield 22, 3) := by decide +kernel
theorem dX9_managesSet_29 : decode cX9_managesSet 29 = .ok (.iload 6, 2) := by decide +kernel
theorem dX9_managesSet_31 : decode cX9_managesSet 31 = .ok (.iaload, 1) := by decide +kernel
theorem dX9_managesSet_32 : decode cX9_managesSet 32 = .ok (.istore 7, 2) := by decide +kernel
theorem dX9_managesSet_34 : decode cX9_managesSet 34 = .ok (.iload_n 3, 1) := by decide +kernel
theorem dX9_managesSet_35 : decode cX9_managesSet 35 = .ok (.iload 7, 2) := by decide +kernel
theorem dX9_managesSet_37 : decode cX9_managesSet 37 = .ok (.ishr, 1) := by decide +kernel
theorem dX9_managesSet_38 : decode cX9_managesSet 38 = .ok (.iconst 1, 1) := by decide +kernel
theorem dX9_managesSet_39 : decode cX9_managesSet 39 = .ok (.iand, 1) := by decide +kernel
theorem dX9_managesSet_40 : decode cX9_managesSet 40 = .ok (.iconst 1, 1) := by decide +kernel
theorem dX9_managesSet_41 : decode cX9_managesSet 41 = .ok (.if_icmp .ne 41, 3) := by decide +kernel
theorem dX9_managesSet_44 : decode cX9_managesSet 44 = .ok (.aload_n 1, 1) := by decide +kernel
theorem dX9_managesSet_45 : decode cX9_managesSet 45 = .ok (.getfield 61, 3) := by decide +kernel
theorem dX9_managesSet_48 : decode cX9_managesSet 48 = .ok (.iload 7, 2) := by decide +kernel
theorem dX9_managesSet_50 : decode cX9_managesSet 50 = .ok (.iaload, 1) := by decide +kernel
theorem dX9_managesSet_51 : decode cX9_managesSet 51 = .ok (.iload 5, 2) := by decide +kernel
theorem dX9_managesSet_53 : decode cX9_managesSet 53 = .ok (.if_icmp .eq 15, 3) := by decide +kernel
theorem dX9_managesSet_56 : decode cX9_managesSet 56 = .ok (.aload_n 1, 1) := by decide +kernel
theorem dX9_managesSet_57 : decode cX9_managesSet 57 = .ok (.iload_n 2, 1) := by decide +kernel
theorem dX9_managesSet_58 : decode cX9_managesSet 58 = .ok (.iload 7, 2) := by decide +kernel
theorem dX9_managesSet_60 : decode cX9_managesSet 60 = .ok (.iload 4, 2) := by decide +kernel
theorem dX9_managesSet_62 : decode cX9_managesSet 62 = .ok (.invokevirtual 64, 3) := by decide +kernel
theorem dX9_managesSet_65 : decode cX9_managesSet 65 = .ok (.ifCond .ne 5, 3) := by decide +kernel
theorem dX9_managesSet_68 : decode cX9_managesSet 68 = .ok (.iconst 0, 1) := by decide +kernel
theorem dX9_managesSet_69 : decode cX9_managesSet 69 = .ok (.ireturn, 1) := by decide +kernel
theorem dX9_managesSet_70 : decode cX9_managesSet 70 = .ok (.aload_n 1, 1) := by decide +kernel
theorem dX9_managesSet_71 : decode cX9_managesSet 71 = .ok (.getfield 61, 3) := by decide +kernel
theorem dX9_managesSet_74 : decode cX9_managesSet 74 = .ok (.iload 7, 2) := by decide +kernel
theorem dX9_managesSet_76 : decode cX9_managesSet 76 = .ok (.iaload, 1) := by decide +kernel
theorem dX9_managesSet_77 : decode cX9_managesSet 77 = .ok (.istore 5, 2) := by decide +kernel
theorem dX9_managesSet_79 : decode cX9_managesSet 79 = .ok (.iinc 4 1, 3) := by decide +kernel
theorem dX9_managesSet_82 : decode cX9_managesSet 82 = .ok (.iinc 6 1, 3) := by decide +kernel
theorem dX9_managesSet_85 : decode cX9_managesSet 85 = .ok (.goto (-76), 3) := by decide +kernel
theorem dX9_managesSet_88 : decode cX9_managesSet 88 = .ok (.iconst 1, 1) := by decide +kernel
theorem dX9_managesSet_89 : decode cX9_managesSet 89 = .ok (.ireturn, 1) := by decide +kernel
theorem tf_9_61 : tFld TB0 9 61 = some (2, 4) := rfl
/-! WORKS: the class's table of who can cut which cloths -/
/-- cloths by days: those that come before (day, c) -/
def ordP (g bd : Int → Int) (N day c : Int) : Prop := (∀ i, 0 ≤ i → i < N → (0 ≤ bd i ∧ bd i < nc g) ∧ (dy g (bd i) < day ∨ (dy g (bd i) = day ∧ bd i < c))) ∧ (∀ x, 0 ≤ x → x < nc g → (dy g x < day ∨ (dy g x = day ∧ x < c)) → ∃ i, (0 ≤ i ∧ i < N) ∧ bd i = x) ∧ ∀ i j, 0 ≤ i → i < j → j < N → dy g (bd i) < dy g (bd j) ∨ (dy g (bd i) = dy g (bd j) ∧ bd i < bd j)
theorem ordP_N {g bd : Int → Int} {N day c : Int} (h6 : 0 ≤ nc g) (h0 : 0 ≤ N) (H : ordP g bd N day c) : N ≤ nc g := by
  have := fb_holes (nc g).toNat N.toNat (fun i => (bd (i : Int)).toNat) (fun i hi => by have := (H.1 (i : Int) (by omega) (by omega)).1; omega) (fun i j hij hj e => by
    have a := (H.1 (i : Int) (by omega) (by omega)).1
    have b := (H.1 (j : Int) (by omega) (by omega)).1
    have q := H.2.2 (i : Int) (j : Int) (by omega) (by omega) (by omega)
    have e : (bd (i : Int)).toNat = (bd (j : Int)).toNat := e
    have e2 : bd (i : Int) = bd (j : Int) := by omega
    rw [e2] at q
    omega)
  omega
theorem ordP_0 (g bd : Int → Int) (w : ∀ x, 0 ≤ x → x < nc g → 0 ≤ dy g x) : ordP g bd 0 0 0 := ⟨fun i a b => by omega, fun x a b q => by have := w x a b; omega, fun i j a b c => by omega⟩
theorem ordP_n {g bd : Int → Int} {N day c : Int} (H : ordP g bd N day c) (n : dy g c ≠ day) : ordP g bd N day (c + 1) := ⟨fun i a b => by have := H.1 i a b; omega, fun x a b q => H.2.1 x a b (by
  by_cases z : x = c
  · rw [z] at q ⊢; omega
  · omega), H.2.2⟩
theorem ordP_y {g bd bd' : Int → Int} {N day c : Int} (h0 : 0 ≤ N) (c0 : 0 ≤ c) (c1 : c < nc g) (H : ordP g bd N day c) (e : dy g c = day) (eN : bd' N = c) (eo : ∀ i, 0 ≤ i → i < N → bd' i = bd i) : ordP g bd' (N + 1) day (c + 1) := by
  refine ⟨fun i a b => ?_, fun x a b q => ?_, fun i j a b d => ?_⟩
  · by_cases z : i = N
    · rw [z, eN]; omega
    · rw [eo i a (by omega)]
      have := H.1 i a (by omega)
      omega
  · by_cases z : x = c
    · exact ⟨N, by omega, by rw [eN, z]⟩
    · obtain ⟨i, h1, h2⟩ := H.2.1 x a b (by omega)
      exact ⟨i, by omega, by rw [eo i h1.1 h1.2]; exact h2⟩
  · by_cases z : j = N
    · rw [z, eN, eo i a (by omega)]
      have := (H.1 i a (by omega)).2
      omega
    · rw [eo i a (by omega), eo j (by omega) (by omega)]
      exact H.2.2 i j a b (by omega)
theorem ordP_d {g bd : Int → Int} {N day c : Int} (h : nc g ≤ c) (H : ordP g bd N day c) : ordP g bd N (day + 1) 0 := ⟨fun i a b => by have := H.1 i a b; omega, fun x a b q => H.2.1 x a b (by omega), H.2.2⟩
def srtP (g bd : Int → Int) : Prop := (∀ i, 0 ≤ i → i < nc g → 0 ≤ bd i ∧ bd i < nc g) ∧ (∀ x, 0 ≤ x → x < nc g → ∃ i, (0 ≤ i ∧ i < nc g) ∧ bd i = x) ∧ ∀ i j, 0 ≤ i → i < j → j < nc g → dy g (bd i) ≤ dy g (bd j) ∧ bd i ≠ bd j
theorem ordP_e {g bd : Int → Int} {N : Int} (h6 : 0 ≤ nc g) (h0 : 0 ≤ N) (w : ∀ x, 0 ≤ x → x < nc g → dy g x ≤ 9) (H : ordP g bd N 10 0) : srtP g bd := by
  have le := ordP_N h6 h0 H
  have ex : ∀ x : Nat, x < (nc g).toNat → ∃ i : Int, (0 ≤ i ∧ i < N) ∧ bd i = (x : Int) := fun x hx => H.2.1 (x : Int) (by omega) (by omega) (by have := w (x : Int) (by omega) (by omega); omega)
  have ge : (nc g).toNat ≤ N.toNat := by
    refine fb_holes N.toNat (nc g).toNat (fun x => if hx : x < (nc g).toNat then (Classical.choose (ex x hx)).toNat else 0) (fun x hx => ?_) (fun x y hxy hy e => ?_)
    · have := (Classical.choose_spec (ex x hx)).1
      rw [dif_pos hx]; omega
    · rw [dif_pos (show x < (nc g).toNat by omega), dif_pos hy] at e
      have a := Classical.choose_spec (ex x (by omega))
      have b := Classical.choose_spec (ex y hy)
      have e2 : Classical.choose (ex x (by omega)) = Classical.choose (ex y hy) := by omega
      rw [e2] at a
      have := a.2.symm.trans b.2
      omega
  have eN : N = nc g := by omega
  subst eN
  refine ⟨fun i a b => (H.1 i a b).1, fun x a b => H.2.1 x a b (by have := w x a b; omega), fun i j a b c => ?_⟩
  have := H.2.2 i j a b c
  exact ⟨by omega, fun e => by rw [e] at this; omega⟩
def byC (h : mH) (y : Nat) (g bd : Int → Int) : Prop := srtP g bd ∧ ∀ i : Int, 0 ≤ i → i < nc g → rI h (y + 3) i = bd i
theorem byC_c {S : Nat → Nat → Prop} {h h1 : mH} {y : Nat} {g bd : Int → Int} (f : frm S h h1) (z : ∀ a k, a = y + 3 → ¬ S a k) (H : byC h y g bd) : byC h1 y g bd := ⟨H.1, fun i a e => (frm_r f (z _ _ rfl)).trans (H.2 i a e)⟩
abbrev mbS (g : Int → Int) (S o : Int) : Prop := o < nc g ∧ hasZ S o
def mgP (g : Int → Int) (d S : Int) : Prop := ∀ c, 0 ≤ c → c < nc g → hasZ S c → (∀ o, 0 ≤ o → o < nc g → hasZ S o → o ≠ c → dy g o ≠ dy g c) ∧ cutW g d c (ahG g (fun o => mbS g S o) c)
/-- the first i by days are looked at: M of them are in S -/
def mgI (g : Int → Int) (d S : Int) (bd : Int → Int) (i M a l : Int) : Prop := (0 ≤ M ∧ M < 64) ∧ (∀ o, 0 ≤ o → o < 6 → (hasZ M o ↔ ∃ j, (0 ≤ j ∧ j < i) ∧ bd j = o ∧ hasZ S o)) ∧ a = cardZ M ∧ ((l = -1 ∧ ¬ nem M) ∨ (0 ≤ l ∧ (∃ o, (0 ≤ o ∧ o < 6) ∧ hasZ M o ∧ dy g o = l) ∧ ∀ o, 0 ≤ o → o < 6 → hasZ M o → dy g o ≤ l)) ∧ ∀ o, 0 ≤ o → o < 6 → hasZ M o → (∀ x, 0 ≤ x → x < 6 → hasZ M x → x ≠ o → dy g x ≠ dy g o) ∧ cutW g d o (ahG g (fun o => mbS g S o) o)
theorem mgI_0 (g : Int → Int) (d S : Int) (bd : Int → Int) : mgI g d S bd 0 0 0 (-1) := ⟨⟨by omega, by omega⟩, fun o a b => ⟨fun z => absurd z (has_0 o), fun ⟨j, hj, _⟩ => by omega⟩, rfl, Or.inl ⟨rfl, fun ⟨k, _, p⟩ => has_0 k p⟩, fun o a b z => absurd z (has_0 o)⟩
theorem mgI_b {g : Int → Int} {d S : Int} {bd : Int → Int} {i M a l : Int} (H : mgI g d S bd i M a l) : (0 ≤ M ∧ M < 64) ∧ (0 ≤ a ∧ a ≤ 6) ∧ -1 ≤ l := by
  have := cardZ_b M
  have h3 := H.2.2.1
  refine ⟨H.1, by omega, ?_⟩
  rcases H.2.2.2.1 with q | q <;> omega
theorem mgI_skip {g : Int → Int} {d S : Int} {bd : Int → Int} {i M a l : Int} (H : mgI g d S bd i M a l) (n : ¬ hasZ S (bd i)) : mgI g d S bd (i + 1) M a l := ⟨H.1, fun o u v => (H.2.1 o u v).trans ⟨fun ⟨j, hj, e⟩ => ⟨j, by omega, e⟩, fun ⟨j, hj, e1, e2⟩ => by
  by_cases z : j = i
  · rw [z] at e1; rw [← e1] at e2; exact absurd e2 n
  · exact ⟨j, by omega, e1, e2⟩⟩, H.2.2⟩
theorem mg_new {g : Int → Int} {d S : Int} {bd : Int → Int} {i M a l : Int} (h6 : nc g ≤ 6) (s : srtP g bd) (H : mgI g d S bd i M a l) (i0 : 0 ≤ i) (i1 : i < nc g) : (0 ≤ bd i ∧ bd i < nc g) ∧ ¬ hasZ M (bd i) ∧ ∀ o, 0 ≤ o → o < 6 → hasZ M o → dy g o ≤ dy g (bd i) ∧ o < nc g ∧ hasZ S o := by
  have b := s.1 i i0 i1
  refine ⟨b, fun z => ?_, fun o u v z => ?_⟩
  · obtain ⟨j, hj, e, _⟩ := (H.2.1 _ b.1 (by omega)).mp z
    exact (s.2.2 j i hj.1 hj.2 i1).2 e
  · obtain ⟨j, hj, e, e2⟩ := (H.2.1 o u v).mp z
    have q := s.2.2 j i hj.1 hj.2 i1
    have bj := s.1 j hj.1 (by omega)
    rw [e] at q bj
    exact ⟨q.1, bj.2, e2⟩
/-- how many come before it is how many have been looked at -/
theorem mg_ah {g : Int → Int} {d S : Int} {bd : Int → Int} {i M a l : Int} (h6 : nc g ≤ 6) (s : srtP g bd) (H : mgI g d S bd i M a l) (i0 : 0 ≤ i) (i1 : i < nc g) (ne : dy g (bd i) ≠ l) : a = ahG g (fun o => mbS g S o) (bd i) ∧ ∀ o, 0 ≤ o → o < 6 → hasZ M o → dy g o < dy g (bd i) := by
  obtain ⟨n1, n2, n3⟩ := mg_new h6 s H i0 i1
  have lt : ∀ o, 0 ≤ o → o < 6 → hasZ M o → dy g o < dy g (bd i) := fun o u v z => by
    rcases H.2.2.2.1 with ⟨q1, q2⟩ | ⟨q1, ⟨x, hx, x1, x2⟩, q3⟩
    · exact absurd ⟨o, ⟨u, v⟩, z⟩ q2
    · have a1 := q3 o u v z
      have a2 := (n3 x hx.1 hx.2 x1).1
      omega
  refine ⟨?_, lt⟩
  rw [H.2.2.1]
  exact sm6_e (fun o u v => bZ_iff ⟨fun z => ⟨(n3 o u v z).2, lt o u v z⟩, fun z => by
    obtain ⟨j, hj, e⟩ := s.2.1 o u z.1.1
    refine (H.2.1 o u v).mpr ⟨j, ⟨hj.1, ?_⟩, e, z.1.2⟩
    rcases (show j < i ∨ j = i ∨ i < j by omega) with q | q | q
    · exact q
    · rw [q] at e
      have := z.2
      rw [e] at this; omega
    · have w := (s.2.2 i j i0 q hj.2).1
      have := z.2
      rw [e] at w; omega⟩)
theorem card_add {M c : Int} (c0 : 0 ≤ c) (c1 : c < 6) (n : ¬ hasZ M c) : cardZ (orZ M (shlZ 1 c)) = cardZ M + 1 := by
  have h := sm6_pt (f := fun k => bZ (hasZ M k)) (f' := fun k => bZ (hasZ (orZ M (shlZ 1 c)) k)) (u := c) c0 c1 (fun k a e z => bZ_iff (by
    rw [or1_has c0 a]
    exact ⟨fun q => q.resolve_right z, Or.inl⟩))
  have h2 : bZ (hasZ (orZ M (shlZ 1 c)) c) = 1 := bZ_1 ((or1_has c0 c0).mpr (Or.inr rfl))
  have h3 : bZ (hasZ M c) = 0 := bZ_0 n
  simp only [h2, h3] at h
  unfold cardZ
  rw [h]; omega
theorem mgI_add {g : Int → Int} {d S : Int} {bd : Int → Int} {i M a l : Int} (h6 : nc g ≤ 6) (s : srtP g bd) (w : ∀ x, 0 ≤ x → x < nc g → 0 ≤ dy g x) (H : mgI g d S bd i M a l) (i0 : 0 ≤ i) (i1 : i < nc g) (p : hasZ S (bd i)) (ne : dy g (bd i) ≠ l) (cu : cutW g d (bd i) a) : mgI g d S bd (i + 1) (orZ M (shlZ 1 (bd i))) (a + 1) (dy g (bd i)) := by
  obtain ⟨n1, n2, n3⟩ := mg_new h6 s H i0 i1
  obtain ⟨e, lt⟩ := mg_ah h6 s H i0 i1 ne
  have hh : ∀ o, 0 ≤ o → (hasZ (orZ M (shlZ 1 (bd i))) o ↔ hasZ M o ∨ o = bd i) := fun o u => or1_has n1.1 u
  refine ⟨or_b H.1.2 (by omega), fun o u v => ?_, ?_, Or.inr ⟨w _ n1.1 n1.2, ⟨bd i, ⟨n1.1, by omega⟩, (hh _ n1.1).mpr (Or.inr rfl), rfl⟩, fun o u v z => ?_⟩, fun o u v z => ?_⟩
  · rw [hh o u, H.2.1 o u v]
    constructor
    · rintro (⟨j, hj, e1, e2⟩ | z)
      · exact ⟨j, by omega, e1, e2⟩
      · exact ⟨i, by omega, z.symm, by rw [z]; exact p⟩
    · rintro ⟨j, hj, e1, e2⟩
      by_cases z : j = i
      · rw [z] at e1; exact Or.inr e1.symm
      · exact Or.inl ⟨j, by omega, e1, e2⟩
  · rw [card_add n1.1 (by omega) n2, H.2.2.1]
  · rcases (hh o u).mp z with q | q
    · have := lt o u v q; omega
    · rw [q]; exact Int.le_refl _
  · rcases (hh o u).mp z with q | q
    · refine ⟨fun x x0 x1 px nx => ?_, (H.2.2.2.2 o u v q).2⟩
      rcases (hh x x0).mp px with y | y
      · exact (H.2.2.2.2 o u v q).1 x x0 x1 y nx
      · rw [y]
        have := lt o u v q; omega
    · rw [q]
      refine ⟨fun x x0 x1 px nx => ?_, by rw [← e]; exact cu⟩
      rcases (hh x x0).mp px with y | y
      · have := lt x x0 x1 y; omega
      · exact absurd y nx
theorem mgI_bad {g : Int → Int} {d S : Int} {bd : Int → Int} {i M a l : Int} (h6 : nc g ≤ 6) (s : srtP g bd) (w : ∀ x, 0 ≤ x → x < nc g → 0 ≤ dy g x) (H : mgI g d S bd i M a l) (i0 : 0 ≤ i) (i1 : i < nc g) (p : hasZ S (bd i)) (q : dy g (bd i) = l ∨ ¬ cutW g d (bd i) a) : ¬ mgP g d S := fun z => by
  obtain ⟨n1, n2, n3⟩ := mg_new h6 s H i0 i1
  by_cases e : dy g (bd i) = l
  · rcases H.2.2.2.1 with ⟨q1, q2⟩ | ⟨q1, ⟨x, hx, x1, x2⟩, q3⟩
    · have := w _ n1.1 n1.2; omega
    · have c := n3 x hx.1 hx.2 x1
      exact (z (bd i) n1.1 n1.2 p).1 x hx.1 c.2.1 c.2.2 (fun y => n2 (by rw [← y]; exact x1)) (by omega)
  · obtain ⟨ea, _⟩ := mg_ah h6 s H i0 i1 e
    have := (z (bd i) n1.1 n1.2 p).2
    rw [← ea] at this
    exact (q.resolve_left e) this
theorem mgI_end {g : Int → Int} {d S : Int} {bd : Int → Int} {i M a l : Int} (h6 : nc g ≤ 6) (s : srtP g bd) (H : mgI g d S bd i M a l) (i1 : i = nc g) : mgP g d S := fun c c0 c1 p => by
  have inM : ∀ x, 0 ≤ x → x < nc g → hasZ S x → hasZ M x := fun x u v px => by
    obtain ⟨j, hj, e⟩ := s.2.1 x u v
    exact (H.2.1 x u (by omega)).mpr ⟨j, by omega, e, px⟩
  obtain ⟨k1, k2⟩ := H.2.2.2.2 c c0 (by omega) (inM c c0 c1 p)
  exact ⟨fun o u v po no => k1 o u (by omega) (inM o u v po) no, k2⟩
set_option maxHeartbeats 1000000 in
theorem zp_X9_orderByDay {ad : mA} {dd : Nat} {h : mH} {Q : mQ} {y f : Nat} {g : Int → Int} (hk : wkk h y) (hk1 : fgk h f) (HF : isF h f g)   (pf : y + 7 ≤ f ∨ f + 16 ≤ y) (kq : ∀ h1, frm (fun a k => a = y + 3) h h1 → (∃ bd, byC h1 y g bd) → Q none h1) : mCal TB0 ad (dd + 1) M_X9_orderByDay [.ref y, .ref f] h 0 0 Q := by
  refine ⟨Nat.le_of_ble_eq_true rfl, ?_⟩
  show mEv TB0 ad M_X9_orderByDay (dd + 1) (0, 0) (mCal TB0 ad (dd + 0)) (fun v h' z => z.1 = 0 ∧ Q v h') 0 [some (.ref y), some (.ref f), none, none, none] [] h (0, 0)
  have FR0 : frm (fun a k => a = y + 3) h h := frm_0 h
  have w1 := isF_n HF
  have w2 := isF_nd HF
  have w3 := isF_nu HF
  have w4 := isF_nc HF
  have W := isF_w HF
  have dw : ∀ x, 0 ≤ x → x < nc g → (0 ≤ dy g x ∧ dy g x ≤ 9) := fun x u v => (wC_c W.2.2 u v).2.2
  refine z_iconst (0) dX9_orderByDay_0 rfl ?_
  refine e_istore_n (L' := [_, _, _, _, _]) dX9_orderByDay_1 (Nat.le_of_ble_eq_true rfl) rfl ?_
  refine z_iconst (0) dX9_orderByDay_2 rfl ?_
  refine e_istore_n (L' := [_, _, _, _, _]) dX9_orderByDay_3 (Nat.le_of_ble_eq_true rfl) rfl ?_
  have lp1 : ∀ (n1 : Nat) (n e : Int) (h1 : mH), (10 - e).toNat = n1 → (wkk h1 y) → (fgk h1 f) → (isF h1 f g) → (frm (fun a k => a = y + 3) h h1) → (0 ≤ e ∧ e ≤ 10) → (0 ≤ n) → (ordP g (fun i => rI h1 (y + 3) i) n e 0) → mEv TB0 ad M_X9_orderByDay (dd + 1) (0, 0) (mCal TB0 ad (dd + 0)) (fun v h' z => z.1 = 0 ∧ Q v h') 4 [some (.ref y), some (.ref f), some (.int (zI n)), some (.int (zI e)), none] [] h1 (0, 0) := by
    intro n1
    induction n1 using Nat.strongRecOn with
    | ind n1 ih1 =>
    intro n e h1 hn1 k2 k3 H4 FR5 I1 I2 I3
    refine e_iload_n dX9_orderByDay_4 rfl ?_
    have nn := ordP_N (by omega) I2 I3
    refine z_bipush (9) dX9_orderByDay_5 rfl ?_
    refine z_icmp_gt 62 dX9_orderByDay_7 rfl ⟨by omega, by omega⟩ ⟨by omega, by omega⟩ (fun c6 => ?_) (fun c6 => ?_)
    · skip
      refine e_vret dX9_orderByDay_62 rfl ⟨rfl, ?_⟩
      exact kq _ FR5 ⟨fun i => rI h1 (y + 3) i, ordP_e (by omega) I2 (fun x u v => (dw x u v).2) (by rw [show (10 : Int) = e by omega]; exact I3), fun i a c => rfl⟩
    · skip
      refine z_iconst (0) dX9_orderByDay_10 rfl ?_
      refine e_istore (L' := [_, _, _, _, _]) dX9_orderByDay_11 (Nat.le_of_ble_eq_true rfl) rfl ?_
      have lp7 : ∀ (n7 : Nat) (n c : Int) (h7 : mH), (nc g - c).toNat = n7 → (wkk h7 y) → (fgk h7 f) → (isF h7 f g) → (frm (fun a k => a = y + 3) h h7) → (0 ≤ c ∧ c ≤ nc g) → (0 ≤ n) → (ordP g (fun i => rI h7 (y + 3) i) n e c) → mEv TB0 ad M_X9_orderByDay (dd + 1) (0, 0) (mCal TB0 ad (dd + 0)) (fun v h' z => z.1 = 0 ∧ Q v h') 13 [some (.ref y), some (.ref f), some (.int (zI n)), some (.int (zI e)), some (.int (zI c))] [] h7 (0, 0) := by
        intro n7
        induction n7 using Nat.strongRecOn with
        | ind n7 ih7 =>
        intro n c h7 hn7 k8 k9 H10 FR11 J1 J2 J3
        refine e_iload dX9_orderByDay_13 rfl ?_
        have nn := ordP_N (by omega) J2 J3
        refine e_aload_n dX9_orderByDay_15 rfl ?_
        refine z_get (nc g) dX9_orderByDay_16 tf_9_56 (congrArg Prod.fst (fg_s0 k9)) (Or.inl rfl) (isF_nc H10) ?_
        have y12 := isF_n H10
        refine z_icmp_ge 56 dX9_orderByDay_19 rfl ⟨by omega, by omega⟩ ⟨by omega, by omega⟩ (fun c13 => ?_) (fun c13 => ?_)
        · skip
          refine z_iinc (L' := [_, _, _, _, _]) dX9_orderByDay_56 rfl rfl ?_
          refine e_goto 4 dX9_orderByDay_59 rfl ?_
          exact mEv_wk (by exact ⟨Or.inr rfl, Or.inr rfl, Or.inr rfl, Or.inr rfl, Or.inl rfl, trivial⟩) (ih1 _ (by omega) n (e + 1) h7 rfl k8 k9 H10 FR11 (by omega) (by omega) (ordP_d (by omega) J3))
        · skip
          refine e_aload_n dX9_orderByDay_22 rfl ?_
          refine e_get (.ref (f + 15)) dX9_orderByDay_23 tf_9_61 (congrArg Prod.fst (fg_s0 k9)) (congrArg va_rf (fg_r0_4 k9)) ?_
          refine e_iload dX9_orderByDay_26 rfl ?_
          refine z_ild (dy g c) dX9_orderByDay_28 (fg_s15 k9) (by decide) (by omega) (by omega) (isF_dy H10 (by omega) (by omega)) ?_
          have y14 := wC_c (isF_w H10).2.2 (show 0 ≤ c by omega) (by omega)
          refine e_iload_n dX9_orderByDay_29 rfl ?_
          refine z_icmp_ne 50 dX9_orderByDay_30 rfl ⟨by omega, by omega⟩ ⟨by omega, by omega⟩ (fun c15 => ?_) (fun c15 => ?_)
          · skip
            refine z_iinc (L' := [_, _, _, _, _]) dX9_orderByDay_50 rfl rfl ?_
            refine e_goto 13 dX9_orderByDay_53 rfl ?_
            exact ih7 _ (by omega) n (c + 1) h7 rfl k8 k9 H10 FR11 (by omega) (by omega) (ordP_n J3 (by omega))
          · skip
            have n7 := ordP_N (N := n + 1) (by omega) (by omega) (ordP_y (bd' := setG (fun i => rI h7 (y + 3) i) n c) (by omega) (by omega) (by omega) J3 (by omega) (if_pos rfl) (fun i a b => if_neg (by omega)))
            refine e_iload_n dX9_orderByDay_33 rfl ?_
            refine z_bipush (6) dX9_orderByDay_34 rfl ?_
            refine z_icmp_ge 50 dX9_orderByDay_36 rfl ⟨by omega, by omega⟩ ⟨by omega, by omega⟩ (fun c16 => ?_) (fun c16 => ?_)
            · exfalso; omega
            · skip
              refine e_aload_n dX9_orderByDay_39 rfl ?_
              refine e_get (.ref (y + 3)) dX9_orderByDay_40 tf_9_22 (congrArg Prod.fst (wk_s0 k8)) (congrArg va_rf (wk_r0_3 k8)) ?_
              refine e_iload_n dX9_orderByDay_43 rfl ?_
              refine e_iload dX9_orderByDay_44 rfl ?_
              refine z_ist dX9_orderByDay_46 (wk_s3 k8) (by decide) (by omega) (by omega) (fun h17 e18 => ?_)
              have f19 := frm_1 e18
              have k20 := lk_q (frm_s f19) k8
              have k21 := lk_q (frm_s f19) k9
              have H22 := isF_c f19 (fun a k q1 q2 => by omega) H10
              have FR23 := frm_t FR11 (frm_m (S' := (fun a k => a = y + 3)) f19 (fun a k q => by omega))
              refine z_iinc (L' := [_, _, _, _, _]) dX9_orderByDay_47 rfl rfl ?_
              refine z_iinc (L' := [_, _, _, _, _]) dX9_orderByDay_50 rfl rfl ?_
              refine e_goto 13 dX9_orderByDay_53 rfl ?_
              exact ih7 _ (by omega) (n + 1) (c + 1) h17 rfl k20 k21 H22 FR23 (by omega) (by omega) (ordP_y (by omega) (by omega) (by omega) J3 (by omega) (by exact (rI_eq e18 ⟨by omega, by omega⟩)) (fun i a b => (frm_r f19 (by omega))))
      exact lp7 _ n 0 h1 rfl k2 k3 H4 FR5 (by omega) (by omega) I3
  exact lp1 _ 0 0 h rfl hk hk1 HF FR0 (by omega) (by omega) (ordP_0 g _ (fun x u v => (dw x u v).1))
set_option maxHeartbeats 1000000 in
theorem zp_X9_managesSet {ad : mA} {dd : Nat} {h : mH} {Q : mQ} {y f : Nat} {g bd : Int → Int} (hk : wkk h y) (hk1 : fgk h f) (HF : isF h f g) (HD : byC h y g bd)  (d : Int) (d_r : -2147483648 ≤ d ∧ d < 2147483648) (s : Int) (s_r : -2147483648 ≤ s ∧ s < 2147483648) (p1 : 0 ≤ s ∧ s < 64) (kq : ∀ v : Int, ((v = 1 ∧ mgP g d s) ∨ (v = 0 ∧ ¬ mgP g d s)) → Q (some (.int (zI v))) h) : mCal TB0 ad (dd + 5) M_X9_managesSet [.ref y, .ref f, .int (zI d), .int (zI s)] h 0 0 Q := by
  refine ⟨Nat.le_of_ble_eq_true rfl, ?_⟩
  show mEv TB0 ad M_X9_managesSet (dd + 5) (0, 0) (mCal TB0 ad (dd + 4)) (fun v h' z => z.1 = 0 ∧ Q v h') 0 [some (.ref y), some (.ref f), some (.int (zI d)), some (.int (zI s)), none, none, none, none] [] h (0, 0)
  have w1 := isF_n HF
  have w2 := isF_nd HF
  have w3 := isF_nu HF
  have w4 := isF_nc HF
  have W := isF_w HF
  have dw : ∀ x, 0 ≤ x → x < nc g → (0 ≤ dy g x ∧ dy g x ≤ 9) := fun x u v => (wC_c W.2.2 u v).2.2
  have sr := HD.1
  refine z_iconst (0) dX9_managesSet_0 rfl ?_
  refine e_istore (L' := [_, _, _, _, _, _, _, _]) dX9_managesSet_1 (Nat.le_of_ble_eq_true rfl) rfl ?_
  refine z_iconst (-1) dX9_managesSet_3 rfl ?_
  refine e_istore (L' := [_, _, _, _, _, _, _, _]) dX9_managesSet_4 (Nat.le_of_ble_eq_true rfl) rfl ?_
  refine z_iconst (0) dX9_managesSet_6 rfl ?_
  refine e_istore (L' := [_, _, _, _, _, _, _, _]) dX9_managesSet_7 (Nat.le_of_ble_eq_true rfl) rfl ?_
  have lp1 : ∀ (n1 : Nat) (a l i M : Int), (nc g - i).toNat = n1 → (0 ≤ i ∧ i ≤ nc g) → (mgI g d s bd i M a l) → (l ≤ 9) → mEv TB0 ad M_X9_managesSet (dd + 5) (0, 0) (mCal TB0 ad (dd + 4)) (fun v h' z => z.1 = 0 ∧ Q v h') 9 [some (.ref y), some (.ref f), some (.int (zI d)), some (.int (zI s)), some (.int (zI a)), some (.int (zI l)), some (.int (zI i)), none] [] h (0, 0) := by
    intro n1
    induction n1 using Nat.strongRecOn with
    | ind n1 ih1 =>
    intro a l i M  hn1  I1 I2 I3
    refine e_iload dX9_managesSet_9 rfl ?_
    have mb := mgI_b I2
    refine e_aload_n dX9_managesSet_11 rfl ?_
    refine z_get (nc g) dX9_managesSet_12 tf_9_56 (congrArg Prod.fst (fg_s0 hk1)) (Or.inl rfl) (isF_nc HF) ?_
    have y2 := isF_n HF
    refine z_icmp_ge 88 dX9_managesSet_15 rfl ⟨by omega, by omega⟩ ⟨by omega, by omega⟩ (fun c3 => ?_) (fun c3 => ?_)
    · skip
      refine z_iconst (1) dX9_managesSet_88 rfl ?_
      refine z_bret dX9_managesSet_89 rfl (Or.inr rfl) ⟨rfl, ?_⟩
      refine kq _ ?_
      first | exact Or.inl ⟨rfl, mgI_end (by omega) sr I2 (by omega)⟩ | exact Or.inr ⟨rfl, mgI_bad (by omega) sr (fun x u v => (dw x u v).1) I2 (by omega) (by omega) (hasZ_i.mp (by assumption)) (by first | exact Or.inl (by assumption) | exact Or.inr (by assumption))⟩
    · skip
      refine e_iload dX9_managesSet_18 rfl ?_
      refine z_bipush (6) dX9_managesSet_20 rfl ?_
      refine z_icmp_ge 88 dX9_managesSet_22 rfl ⟨by omega, by omega⟩ ⟨by omega, by omega⟩ (fun c4 => ?_) (fun c4 => ?_)
      · exfalso; omega
      · skip
        have bb := sr.1 i (by omega) (by omega)
        have db := dw (bd i) bb.1 bb.2
        refine e_aload_n dX9_managesSet_25 rfl ?_
        refine e_get (.ref (y + 3)) dX9_managesSet_26 tf_9_22 (congrArg Prod.fst (wk_s0 hk)) (congrArg va_rf (wk_r0_3 hk)) ?_
        refine e_iload dX9_managesSet_29 rfl ?_
        refine z_ild (bd i) dX9_managesSet_31 (wk_s3 hk) (by decide) (by omega) (by omega) (HD.2 i (by omega) (by omega)) ?_
        refine e_istore (L' := [_, _, _, _, _, _, _, _]) dX9_managesSet_32 (Nat.le_of_ble_eq_true rfl) rfl ?_
        refine e_iload_n dX9_managesSet_34 rfl ?_
        refine e_iload dX9_managesSet_35 rfl ?_
        refine z_ishr dX9_managesSet_37 (by omega) (by omega) (by omega) (by omega) ?_
        have y5 := shrZ_b s (bd i)
        refine z_iconst (1) dX9_managesSet_38 rfl ?_
        refine z_iand dX9_managesSet_39 (by omega) (by omega) (by omega) (by omega) ?_
        have y6 := andZ_b (shrZ s (bd i)) 1
        refine z_iconst (1) dX9_managesSet_40 rfl ?_
        refine z_icmp_ne 82 dX9_managesSet_41 rfl ⟨by omega, by omega⟩ ⟨by omega, by omega⟩ (fun c7 => ?_) (fun c7 => ?_)
        · skip
          refine z_iinc (L' := [_, _, _, _, _, _, _, _]) dX9_managesSet_82 rfl rfl ?_
          refine e_goto 9 dX9_managesSet_85 rfl ?_
          exact mEv_wk (by exact ⟨Or.inr rfl, Or.inr rfl, Or.inr rfl, Or.inr rfl, Or.inr rfl, Or.inr rfl, Or.inr rfl, Or.inl rfl, trivial⟩) (ih1 _ (by omega) a l (i + 1) M  rfl  (by omega) (mgI_skip I2 (fun z => absurd (hasZ_i.mpr z) (by assumption))) (by omega))
        · skip
          refine e_aload_n dX9_managesSet_44 rfl ?_
          refine e_get (.ref (f + 15)) dX9_managesSet_45 tf_9_61 (congrArg Prod.fst (fg_s0 hk1)) (congrArg va_rf (fg_r0_4 hk1)) ?_
          refine e_iload dX9_managesSet_48 rfl ?_
          refine z_ild (dy g (bd i)) dX9_managesSet_50 (fg_s15 hk1) (by decide) (by omega) (by omega) (isF_dy HF (by omega) (by omega)) ?_
          have y8 := wC_c (isF_w HF).2.2 (show 0 ≤ (bd i) by omega) (by omega)
          refine e_iload dX9_managesSet_51 rfl ?_
          refine z_icmp_eq 68 dX9_managesSet_53 rfl ⟨by omega, by omega⟩ ⟨by omega, by omega⟩ (fun c9 => ?_) (fun c9 => ?_)
          · skip
            refine z_iconst (0) dX9_managesSet_68 rfl ?_
            refine z_bret dX9_managesSet_69 rfl (Or.inl rfl) ⟨rfl, ?_⟩
            refine kq _ ?_
            first | exact Or.inl ⟨rfl, mgI_end (by omega) sr I2 (by omega)⟩ | exact Or.inr ⟨rfl, mgI_bad (by omega) sr (fun x u v => (dw x u v).1) I2 (by omega) (by omega) (hasZ_i.mp (by assumption)) (by first | exact Or.inl (by assumption) | exact Or.inr (by assumption))⟩
          · skip
            refine e_aload_n dX9_managesSet_56 rfl ?_
            refine e_iload_n dX9_managesSet_57 rfl ?_
            refine e_iload dX9_managesSet_58 rfl ?_
            refine e_iload dX9_managesSet_60 rfl ?_
            refine e_callV [.int _, .int _, .int _] dX9_managesSet_62 tm_9_64 rfl (Nat.le_of_ble_eq_true rfl) (congrArg Prod.fst (fg_s0 hk1)) (Nat.le_of_ble_eq_true rfl) (Nat.le_refl _) (Nat.le_refl _) rfl (zp_X2_cutsWorn hk1 HF d ⟨by omega, by omega⟩ (bd i) ⟨by omega, by omega⟩ a ⟨by omega, by omega⟩ (by omega) (by omega) ?_)
            refine z_ifb_ne 70 dX9_managesSet_65 rfl (fun c10 => ?_) (fun c10 => ?_)
            · skip
              refine e_aload_n dX9_managesSet_70 rfl ?_
              refine e_get (.ref (f + 15)) dX9_managesSet_71 tf_9_61 (congrArg Prod.fst (fg_s0 hk1)) (congrArg va_rf (fg_r0_4 hk1)) ?_
              refine e_iload dX9_managesSet_74 rfl ?_
              refine z_ild (dy g (bd i)) dX9_managesSet_76 (fg_s15 hk1) (by decide) (by omega) (by omega) (isF_dy HF (by omega) (by omega)) ?_
              have y11 := wC_c (isF_w HF).2.2 (show 0 ≤ (bd i) by omega) (by omega)
              refine e_istore (L' := [_, _, _, _, _, _, _, _]) dX9_managesSet_77 (Nat.le_of_ble_eq_true rfl) rfl ?_
              refine z_iinc (L' := [_, _, _, _, _, _, _, _]) dX9_managesSet_79 rfl rfl ?_
              refine z_iinc (L' := [_, _, _, _, _, _, _, _]) dX9_managesSet_82 rfl rfl ?_
              refine e_goto 9 dX9_managesSet_85 rfl ?_
              exact mEv_wk (by exact ⟨Or.inr rfl, Or.inr rfl, Or.inr rfl, Or.inr rfl, Or.inr rfl, Or.inr rfl, Or.inr rfl, Or.inl rfl, trivial⟩) (ih1 _ (by omega) (a + 1) (dy g (bd i)) (i + 1) (orZ M (shlZ 1 (bd i)))  rfl  (by omega) (mgI_add (by omega) sr (fun x u v => (dw x u v).1) I2 (by omega) (by omega) (hasZ_i.mp (by assumption)) (by assumption) (by assumption)) (by omega))
            · skip
              refine z_iconst (0) dX9_managesSet_68 rfl ?_
              refine z_bret dX9_managesSet_69 rfl (Or.inl rfl) ⟨rfl, ?_⟩
              refine kq _ ?_
              first | exact Or.inl ⟨rfl, mgI_end (by omega) sr I2 (by omega)⟩ | exact Or.inr ⟨rfl, mgI_bad (by omega) sr (fun x u v => (dw x u v).1) I2 (by omega) (by omega) (hasZ_i.mp (by assumption)) (by first | exact Or.inl (by assumption) | exact Or.inr (by assumption))⟩
  exact lp1 _ 0 (-1) 0 0  rfl  (by omega) (mgI_0 g d s bd) (by omega)
