/-! ASKED of the class -/
theorem dX5_nextAsker_0 : decode cX5_nextAsker 0 = .ok (.iconst 0, 1) := by decide +kernel
theorem dX5_nextAsker_1 : decode cX5_nextAsker 1 = .ok (.istore 4, 2) := by decide +kernel
theorem dX5_nextAsker_3 : decode cX5_nextAsker 3 = .ok (.iload 4, 2) := by decide +kernel
theorem dX5_nextAsker_5 : decode cX5_nextAsker 5 = .ok (.iload_n 1, 1) := by decide +kernel
theorem dX5_nextAsker_6 : decode cX5_nextAsker 6 = .ok (.if_icmp .ge 39, 3) := by decide +kernel
theorem dX5_nextAsker_9 : decode cX5_nextAsker 9 = .ok (.iload 4, 2) := by decide +kernel
theorem dX5_nextAsker_11 : decode cX5_nextAsker 11 = .ok (.bipush 6, 2) := by decide +kernel
theorem dX5_nextAsker_13 : decode cX5_nextAsker 13 = .ok (.if_icmp .ge 32, 3) := by decide +kernel
theorem dX5_nextAsker_16 : decode cX5_nextAsker 16 = .ok (.aload_n 3, 1) := by decide +kernel
theorem dX5_nextAsker_17 : decode cX5_nextAsker 17 = .ok (.iload 4, 2) := by decide +kernel
theorem dX5_nextAsker_19 : decode cX5_nextAsker 19 = .ok (.iaload, 1) := by decide +kernel
theorem dX5_nextAsker_20 : decode cX5_nextAsker 20 = .ok (.bipush 6, 2) := by decide +kernel
theorem dX5_nextAsker_22 : decode cX5_nextAsker 22 = .ok (.if_icmp .ne 17, 3) := by decide +kernel
theorem dX5_nextAsker_25 : decode cX5_nextAsker 25 = .ok (.aload_n 0, 1) := by decide +kernel
theorem dX5_nextAsker_26 : decode cX5_nextAsker 26 = .ok (.getfield 37, 3) := by decide +kernel
theorem dX5_nextAsker_29 : decode cX5_nextAsker 29 = .ok (.iload 4, 2) := by decide +kernel
theorem dX5_nextAsker_31 : decode cX5_nextAsker 31 = .ok (.iaload, 1) := by decide +kernel
theorem dX5_nextAsker_32 : decode cX5_nextAsker 32 = .ok (.iload_n 2, 1) := by decide +kernel
theorem dX5_nextAsker_33 : decode cX5_nextAsker 33 = .ok (.if_icmp .ge 6, 3) := by decide +kernel
theorem dX5_nextAsker_36 : decode cX5_nextAsker 36 = .ok (.iload 4, 2) := by decide +kernel
theorem dX5_nextAsker_38 : decode cX5_nextAsker 38 = .ok (.ireturn, 1) := by decide +kernel
theorem dX5_nextAsker_39 : decode cX5_nextAsker 39 = .ok (.iinc 4 1, 3) := by decide +kernel
theorem dX5_nextAsker_42 : decode cX5_nextAsker 42 = .ok (.goto (-39), 3) := by decide +kernel
theorem dX5_nextAsker_45 : decode cX5_nextAsker 45 = .ok (.iconst (-1), 1) := by decide +kernel
theorem dX5_nextAsker_46 : decode cX5_nextAsker 46 = .ok (.ireturn, 1) := by decide +kernel
theorem dX5_ranked_0 : decode cX5_ranked 0 = .ok (.iconst 0, 1) := by decide +kernel
theorem dX5_ranked_1 : decode cX5_ranked 1 = .ok (.istore 4, 2) := by decide +kernel
theorem dX5_ranked_3 : decode cX5_ranked 3 = .ok (.iload 4, 2) := by decide +kernel
theorem dX5_ranked_5 : decode cX5_ranked 5 = .ok (.iload_n 3, 1) := by decide +kernel
theorem dX5_ranked_6 : decode cX5_ranked 6 = .ok (.if_icmp .ge 32, 3) := by decide +kernel
theorem dX5_ranked_9 : decode cX5_ranked 9 = .ok (.iload 4, 2) := by decide +kernel
theorem dX5_ranked_11 : decode cX5_ranked 11 = .ok (.bipush 6, 2) := by decide +kernel
theorem dX5_ranked_13 : decode cX5_ranked 13 = .ok (.if_icmp .ge 25, 3) := by decide +kernel
theorem dX5_ranked_16 : decode cX5_ranked 16 = .ok (.aload_n 0, 1) := by decide +kernel
theorem dX5_ranked_17 : decode cX5_ranked 17 = .ok (.iload_n 1, 1) := by decide +kernel
theorem dX5_ranked_18 : decode cX5_ranked 18 = .ok (.bipush 7, 2) := by decide +kernel
theorem dX5_ranked_20 : decode cX5_ranked 20 = .ok (.imul, 1) := by decide +kernel
theorem dX5_ranked_21 : decode cX5_ranked 21 = .ok (.iload 4, 2) := by decide +kernel
theorem dX5_ranked_23 : decode cX5_ranked 23 = .ok (.iadd, 1) := by decide +kernel
theorem dX5_ranked_24 : decode cX5_ranked 24 = .ok (.iaload, 1) := by decide +kernel
theorem dX5_ranked_25 : decode cX5_ranked 25 = .ok (.iload_n 2, 1) := by decide +kernel
theorem dX5_ranked_26 : decode cX5_ranked 26 = .ok (.if_icmp .ne 6, 3) := by decide +kernel
theorem dX5_ranked_29 : decode cX5_ranked 29 = .ok (.iload 4, 2) := by decide +kernel
theorem dX5_ranked_31 : decode cX5_ranked 31 = .ok (.ireturn, 1) := by decide +kernel
theorem dX5_ranked_32 : decode cX5_ranked 32 = .ok (.iinc 4 1, 3) := by decide +kernel
theorem dX5_ranked_35 : decode cX5_ranked 35 = .ok (.goto (-32), 3) := by decide +kernel
theorem dX5_ranked_38 : decode cX5_ranked 38 = .ok (.iconst (-1), 1) := by decide +kernel
theorem dX5_ranked_39 : decode cX5_ranked 39 = .ok (.ireturn, 1) := by decide +kernel
/-! ASKED of the class: A how many each has asked, T whom each asker has, H whom the other side has -/
def rkH (K rk : Int → Int → Int) (na no : Int) : Prop := (∀ a b, 0 ≤ a → a < na → 0 ≤ b → b < no → 0 ≤ rk a b ∧ rk a b < no) ∧ ∀ a b x, 0 ≤ a → a < na → 0 ≤ b → b < no → 0 ≤ x → x < no → (rk a b < rk a x ↔ K a x < K a b) ∧ (rk a b = rk a x → b = x)
def caI (K rk : Int → Int → Int) (na no : Int) (A T H : Int → Int) : Prop := (∀ a, 0 ≤ a → a < 6 → 0 ≤ A a ∧ A a ≤ no) ∧ (∀ b, 0 ≤ b → b < 6 → H b = 6 ∨ (b < no ∧ (0 ≤ H b ∧ H b < na) ∧ T (H b) = b)) ∧ (∀ a, 0 ≤ a → a < 6 → T a = 6 ∨ ((a < na ∧ 0 ≤ T a ∧ T a < no) ∧ H (T a) = a)) ∧ (∀ a b, 0 ≤ a → a < na → 0 ≤ b → b < no → rk a b < A a → H b ≠ 6 ∧ K a b ≤ K (H b) b) ∧ ∀ a, 0 ≤ a → a < na → T a ≠ 6 → rk a (T a) < A a
theorem ca_0 {K rk : Int → Int → Int} {na no : Int} {A T H : Int → Int} (n : na ≤ 6 ∧ 0 ≤ no) (R : rkH K rk na no) (h : ∀ x, 0 ≤ x → x < 6 → A x = 0 ∧ T x = 6 ∧ H x = 6) : caI K rk na no A T H := by
  refine ⟨fun a u v => by rw [(h a u v).1]; omega, fun b u v => Or.inl (h b u v).2.2, fun a u v => Or.inl (h a u v).2.1, fun a b a0 a1 b0 b1 z => ?_, fun a a0 a1 z => absurd (h a a0 (by omega)).2.1 z⟩
  rw [(h a a0 (by omega)).1] at z
  have := (R.1 a b a0 a1 b0 b1).1
  omega
theorem ca_ask {K rk : Int → Int → Int} {na no : Int} {A T H A' T' H' : Int → Int} {a : Int} (n : na ≤ 6 ∧ no ≤ 6) (R : rkH K rk na no) (I : caI K rk na no A T H) (a0 : 0 ≤ a) (a1 : a < na) (Ta : T a = 6) (Aa : A a < no) (eA : A' a = A a + 1) (oA : ∀ x, 0 ≤ x → x < 6 → x ≠ a → A' x = A x)
    (q : ((∀ b, 0 ≤ b → b < no → rk a b ≠ A a) ∧ (∀ x, 0 ≤ x → x < 6 → T' x = T x) ∧ ∀ x, 0 ≤ x → x < 6 → H' x = H x) ∨ ∃ b, (0 ≤ b ∧ b < no) ∧ rk a b = A a ∧ (((H b = 6 ∨ K (H b) b < K a b) ∧ T' a = b ∧ H' b = a ∧ (∀ x, 0 ≤ x → x < 6 → x ≠ a → x = H b → T' x = 6) ∧ (∀ x, 0 ≤ x → x < 6 → x ≠ a → x ≠ H b → T' x = T x) ∧ ∀ x, 0 ≤ x → x < 6 → x ≠ b → H' x = H x) ∨ (¬ (H b = 6 ∨ K (H b) b < K a b) ∧ (∀ x, 0 ≤ x → x < 6 → T' x = T x) ∧ ∀ x, 0 ≤ x → x < 6 → H' x = H x))) : caI K rk na no A' T' H' := by
  obtain ⟨i1, i2, i3, i4, i5⟩ := I
  have j1 : ∀ x, 0 ≤ x → x < 6 → 0 ≤ A' x ∧ A' x ≤ no := fun x u v => by
    by_cases z : x = a
    · have := i1 a a0 (by omega); rw [z, eA]; omega
    · rw [oA x u v z]; exact i1 x u v
  have le : ∀ x, 0 ≤ x → x < 6 → A x ≤ A' x := fun x u v => by
    by_cases z : x = a
    · rw [z, eA]; omega
    · rw [oA x u v z]; exact Int.le_refl _
  have same : (∀ x, 0 ≤ x → x < 6 → T' x = T x) → (∀ x, 0 ≤ x → x < 6 → H' x = H x) → (∀ b, 0 ≤ b → b < no → rk a b = A a → H b ≠ 6 ∧ K a b ≤ K (H b) b) → caI K rk na no A' T' H' := fun eT eH f => by
    refine ⟨j1, fun b u v => ?_, fun x u v => ?_, fun x b x0 x1 b0 b1 z => ?_, fun x x0 x1 z => ?_⟩
    · rw [eH b u v]
      rcases i2 b u v with w | w
      · exact Or.inl w
      · exact Or.inr ⟨w.1, w.2.1, by rw [eT _ w.2.1.1 (by omega)]; exact w.2.2⟩
    · rw [eT x u v]
      rcases i3 x u v with w | w
      · exact Or.inl w
      · exact Or.inr ⟨w.1, by rw [eH _ w.1.2.1 (by omega)]; exact w.2⟩
    · rw [eH b b0 (by omega)]
      by_cases y : rk x b < A x
      · exact i4 x b x0 x1 b0 b1 y
      · by_cases w : x = a
        · rw [w] at z y ⊢; exact f b b0 b1 (by omega)
        · rw [oA x x0 (by omega) w] at z; omega
    · rw [eT x x0 (by omega)] at z ⊢
      have := i5 x x0 x1 z
      have := le x x0 (by omega)
      omega
  rcases q with ⟨q1, q2, q3⟩ | ⟨b, b0, q1, q⟩
  · exact same q2 q3 (fun b u v z => absurd z (q1 b u v))
  rcases q with ⟨q2, q3, q4, q5, q6, q7⟩ | ⟨q2, q3, q4⟩
  · have Hb := i2 b b0.1 (by omega)
    have nH : ∀ x, 0 ≤ x → x < 6 → H x ≠ a := fun x u v z => by
      rcases i2 x u v with w | w
      · omega
      · rw [z] at w; omega
    refine ⟨j1, fun y u v => ?_, fun x u v => ?_, fun x y x0 x1 y0 y1 z => ?_, fun x x0 x1 z => ?_⟩
    · by_cases w : y = b
      · rw [w, q4, q3]; exact Or.inr ⟨by omega, by omega, rfl⟩
      · rw [q7 y u v w]
        rcases i2 y u v with t | t
        · exact Or.inl t
        · refine Or.inr ⟨t.1, t.2.1, ?_⟩
          rw [q6 _ t.2.1.1 (by omega) (nH y u v) (fun s => ?_)]
          · exact t.2.2
          · rcases Hb with k | k
            · omega
            · rw [← s, t.2.2] at k; exact w k.2.2
    · by_cases w : x = a
      · rw [w, q3, q4]; exact Or.inr ⟨by omega, rfl⟩
      · by_cases s : x = H b
        · exact Or.inl (q5 x u v w s)
        · rw [q6 x u v w s]
          rcases i3 x u v with t | t
          · exact Or.inl t
          · refine Or.inr ⟨t.1, ?_⟩
            rw [q7 _ t.1.2.1 (by omega) (fun k => s (by rw [← k]; exact t.2.symm))]; exact t.2
    · by_cases w : y = b
      · rw [w] at z ⊢
        rw [q4]
        refine ⟨by omega, ?_⟩
        by_cases t : x = a
        · rw [t]; exact Int.le_refl _
        · rw [oA x x0 (by omega) t] at z
          have k := i4 x b x0 x1 b0.1 b0.2 z
          rcases q2 with q2 | q2
          · exact absurd q2 k.1
          · omega
      · rw [q7 y y0 (by omega) w]
        by_cases t : x = a
        · rw [t, eA] at z
          rw [t]
          refine i4 a y a0 a1 y0 y1 ?_
          have := (R.2 a y b a0 a1 y0 y1 b0.1 b0.2).2
          by_cases k : rk a y = rk a b
          · exact absurd (this k) w
          · omega
        · rw [oA x x0 (by omega) t] at z
          exact i4 x y x0 x1 y0 y1 z
    · by_cases w : x = a
      · rw [w, q3, eA, q1]; omega
      · by_cases s : x = H b
        · exact absurd (q5 x x0 (by omega) w s) z
        · rw [q6 x x0 (by omega) w s] at z ⊢
          rw [oA x x0 (by omega) w]
          exact i5 x x0 x1 z
  · refine same q3 q4 (fun y u v z => ?_)
    have e := (R.2 a y b a0 a1 u v b0.1 b0.2).2 (by omega)
    rw [e]
    rcases (show H b = 6 ∨ H b ≠ 6 by omega) with k | k
    · exact absurd (Or.inl k) q2
    · exact ⟨k, Int.not_lt.mp (fun l => q2 (Or.inr l))⟩
def naP (h : mH) (y T : Nat) (na no v : Int) : Prop := (v = -1 ∧ ∀ a : Int, 0 ≤ a → a < na → ¬ (rI h (y + T) a = 6 ∧ rI h (y + 38) a < no)) ∨ ((0 ≤ v ∧ v < na) ∧ rI h (y + T) v = 6 ∧ rI h (y + 38) v < no)
def rnP (rk : Int → Int → Int) (no a w v : Int) : Prop := (v = -1 ∧ ∀ b : Int, 0 ≤ b → b < no → rk a b ≠ w) ∨ ((0 ≤ v ∧ v < no) ∧ rk a v = w)
theorem naP_y {h : mH} {y T : Nat} {na no v : Int} (H : naP h y T na no v) (q : v ≠ -1) : (0 ≤ v ∧ v < na) ∧ rI h (y + T) v = 6 ∧ rI h (y + 38) v < no := Or.resolve_left H (fun z => q z.1)
theorem rnP_y {rk : Int → Int → Int} {no a w v : Int} (H : rnP rk no a w v) (q : v ≠ -1) : (0 ≤ v ∧ v < no) ∧ rk a v = w := Or.resolve_left H (fun z => q z.1)
theorem rnP_n {rk : Int → Int → Int} {no a w v : Int} (H : rnP rk no a w v) (q : v = -1) : ∀ b : Int, 0 ≤ b → b < no → rk a b ≠ w := by
  rcases H with z | z
  · exact z.2
  · omega
theorem naP_b {h : mH} {y T : Nat} {na no v : Int} (H : naP h y T na no v) : v = -1 ∨ (0 ≤ v ∧ v < na) := by
  rcases H with z | z
  · exact Or.inl z.1
  · exact Or.inr z.1
theorem rnP_b {rk : Int → Int → Int} {no a w v : Int} (H : rnP rk no a w v) : v = -1 ∨ (0 ≤ v ∧ v < no) := by
  rcases H with z | z
  · exact Or.inl z.1
  · exact Or.inr z.1
theorem ca_Hb {K rk : Int → Int → Int} {na no : Int} {A T H : Int → Int} (I : caI K rk na no A T H) {b : Int} (b0 : 0 ≤ b) (b1 : b < 6) : H b = 6 ∨ (0 ≤ H b ∧ H b < na) := by
  rcases I.2.1 b b0 b1 with q | q
  · exact Or.inl q
  · exact Or.inr q.2.1
def caD (na no : Int) (A T : Int → Int) : Prop := ∀ a, 0 ≤ a → a < na → ¬ (T a = 6 ∧ A a < no)
theorem naP_n {h : mH} {y T : Nat} {na no v na' no' : Int} (H : naP h y T na no v) (q : v = -1) (e1 : na = na') (e2 : no = no') : caD na' no' (fun x => rI h (y + 38) x) (fun x => rI h (y + T) x) := by
  rw [← e1, ← e2]
  rcases H with z | z
  · exact z.2
  · omega
theorem ca_36 {K rk : Int → Int → Int} {na no : Int} {A T H : Int → Int} (I : caI K rk na no A T H) (n : na ≤ 6 ∧ no ≤ 6) (s : sm6 A = 36) : caD na no A T := fun a a0 a1 z => by
  have h0 := I.1 0 (by omega) (by omega)
  have h1 := I.1 1 (by omega) (by omega)
  have h2 := I.1 2 (by omega) (by omega)
  have h3 := I.1 3 (by omega) (by omega)
  have h4 := I.1 4 (by omega) (by omega)
  have h5 := I.1 5 (by omega) (by omega)
  unfold sm6 at s
  have : a = 0 ∨ a = 1 ∨ a = 2 ∨ a = 3 ∨ a = 4 ∨ a = 5 := by omega
  rcases this with e | e | e | e | e | e <;> rw [e] at z <;> omega
theorem ca_down {g A T H : Int → Int} (n : (0 ≤ nd g ∧ nd g ≤ 6) ∧ (0 ≤ nu g ∧ nu g ≤ 6)) (R : rkH (fun a b => KY g a b) (dR g) (nd g) (nu g)) (I : caI (fun a b => KY g a b) (dR g) (nd g) (nu g) A T H) (dn : caD (nd g) (nu g) A T) : (isRw g T ∧ stn g T) ∧ ∀ u, 0 ≤ u → u < 6 → own T u (H u) := by
  obtain ⟨i1, i2, i3, i4, i5⟩ := I
  refine ⟨⟨fun d a b => ?_, fun d u d0 d1 u0 u1 lv => ?_⟩, fun u a b => ?_⟩
  · rcases i3 d a b with q | q
    · exact Or.inl q
    · refine Or.inr ⟨q.1, fun e e0 e1 z => ?_⟩
      rcases i3 e e0 e1 with w | w
      · omega
      · rw [z] at w; omega
  · have as : dR g d u < A d := by
      have rb := R.1 d u d0 d1 u0 u1
      by_cases z : T d = 6
      · have := dn d d0 d1
        omega
      · have k := i5 d d0 d1 z
        have t := (i3 d d0 (by omega)).resolve_left z
        have l := (lv.1).resolve_left z
        have := ((R.2 d u (T d) d0 d1 u0 u1 (by omega) (by omega)).1).mpr l
        omega
    obtain ⟨k1, k2⟩ := i4 d u d0 d1 u0 u1 as
    have k2 : KY g d u ≤ KY g (H u) u := k2
    have w := (i2 u u0 (by omega)).resolve_left k1
    have := lv.2 (H u) w.2.1.1 (by omega) w.2.2
    omega
  · rcases i2 u a b with q | q
    · refine Or.inl ⟨q, fun d d0 d1 z => ?_⟩
      rcases i3 d d0 d1 with w | w
      · omega
      · rw [z, q] at w; omega
    · exact Or.inr ⟨by omega, q.2.2⟩
theorem ca_up {g A T H : Int → Int} (n : (0 ≤ nd g ∧ nd g ≤ 6) ∧ (0 ≤ nu g ∧ nu g ≤ 6)) (R : rkH (fun a b => KY g b a) (uR g) (nu g) (nd g)) (I : caI (fun a b => KY g b a) (uR g) (nu g) (nd g) A T H) (dn : caD (nu g) (nd g) A T) : (isRw g H ∧ stn g H) ∧ ∀ u, 0 ≤ u → u < 6 → own H u (T u) := by
  obtain ⟨i1, i2, i3, i4, i5⟩ := I
  refine ⟨⟨fun d a b => ?_, fun d u d0 d1 u0 u1 lv => ?_⟩, fun u a b => ?_⟩
  · rcases i2 d a b with q | q
    · exact Or.inl q
    · refine Or.inr ⟨by omega, fun e e0 e1 z => ?_⟩
      rcases i2 e e0 e1 with w | w
      · omega
      · rw [z] at w; omega
  · have as : uR g u d < A u := by
      have rb := R.1 u d u0 u1 d0 d1
      by_cases z : T u = 6
      · have := dn u u0 u1
        omega
      · have k := i5 u u0 u1 z
        have t := (i3 u u0 (by omega)).resolve_left z
        have l := lv.2 (T u) t.1.2.1 (by omega) t.2
        have := ((R.2 u d (T u) u0 u1 d0 d1 (by omega) (by omega)).1).mpr l
        omega
    obtain ⟨k1, k2⟩ := i4 u d u0 u1 d0 d1 as
    have k2 : KY g d u ≤ KY g d (H d) := k2
    have := (lv.1).resolve_left k1
    omega
  · rcases i3 u a b with q | q
    · refine Or.inl ⟨q, fun d d0 d1 z => ?_⟩
      rcases i2 d d0 d1 with w | w
      · omega
      · rw [z, q] at w; omega
    · exact Or.inr ⟨by omega, q.2⟩
theorem rkH_d {g : Int → Int} (n : (0 ≤ nd g ∧ nd g ≤ 6) ∧ (0 ≤ nu g ∧ nu g ≤ 6)) : rkH (fun a b => KY g a b) (dR g) (nd g) (nu g) := by
  refine ⟨fun a b a0 a1 b0 b1 => ?_, fun a b x a0 a1 b0 b1 x0 x1 => ?_⟩
  · have e : dR g a b = dnR g a b := if_pos ⟨a1, b1⟩
    rw [e]; exact dnR_b n.2 b0 b1
  · have p := dR_lt n ⟨a0, a1⟩ ⟨b0, b1⟩ (x := x) (Or.inr ⟨x0, x1⟩)
    have q := dR_lt n ⟨a0, a1⟩ ⟨x0, x1⟩ (x := b) (Or.inr ⟨b0, b1⟩)
    refine ⟨⟨fun z => (p.mp z).resolve_left (by omega), fun z => p.mpr (Or.inr z)⟩, fun z => ?_⟩
    have z1 : ¬ KY g a x < KY g a b := fun w => by have := p.mpr (Or.inr w); omega
    have z2 : ¬ KY g a b < KY g a x := fun w => by have := q.mpr (Or.inr w); omega
    exact (KY_ne (g := g) (d := a) (u := b) (d' := a) (u' := x) (by omega) (by omega) (by omega) (by omega) (by omega)).2
theorem rkH_u {g : Int → Int} (n : (0 ≤ nd g ∧ nd g ≤ 6) ∧ (0 ≤ nu g ∧ nu g ≤ 6)) : rkH (fun a b => KY g b a) (uR g) (nu g) (nd g) := by
  refine ⟨fun a b a0 a1 b0 b1 => ?_, fun a b x a0 a1 b0 b1 x0 x1 => ?_⟩
  · have e : uR g a b = urN g a b := if_pos ⟨b1, a1⟩
    rw [e]; exact urN_b n.1 b0 b1
  · have p := uR_lt n ⟨b0, b1⟩ ⟨a0, a1⟩ (x := x) (Or.inr ⟨x0, x1⟩)
    have q := uR_lt n ⟨x0, x1⟩ ⟨a0, a1⟩ (x := b) (Or.inr ⟨b0, b1⟩)
    refine ⟨⟨fun z => (p.mp z).resolve_left (by omega), fun z => p.mpr (Or.inr z)⟩, fun z => ?_⟩
    have z1 : ¬ KY g x a < KY g b a := fun w => by have := p.mpr (Or.inr w); omega
    have z2 : ¬ KY g b a < KY g x a := fun w => by have := q.mpr (Or.inr w); omega
    exact (KY_ne (g := g) (d := b) (u := a) (d' := x) (u' := a) (by omega) (by omega) (by omega) (by omega) (by omega)).1
set_option maxHeartbeats 400000 in
theorem zp_X5_nextAsker_0 {ad : mA} {dd : Nat} {h : mH} {Q : mQ} {y : Nat}  (hk : mak h y)  (na : Int) (na_r : -2147483648 ≤ na ∧ na < 2147483648) (no : Int) (no_r : -2147483648 ≤ no ∧ no < 2147483648) (pn : 0 ≤ na ∧ na ≤ 6) (kq : ∀ v : Int, (naP h y 33 na no v) → Q (some (.int (zI v))) h) : mCal TB0 ad (dd + 1) M_X5_nextAsker [.ref y, .int (zI na), .int (zI no), .ref (y + 33)] h 0 0 Q := by
  refine ⟨Nat.le_of_ble_eq_true rfl, ?_⟩
  show mEv TB0 ad M_X5_nextAsker (dd + 1) (0, 0) (mCal TB0 ad (dd + 0)) (fun v h' z => z.1 = 0 ∧ Q v h') 0 [some (.ref y), some (.int (zI na)), some (.int (zI no)), some (.ref (y + 33)), none] [] h (0, 0)
  refine z_iconst (0) dX5_nextAsker_0 rfl ?_
  refine e_istore (L' := [_, _, _, _, _]) dX5_nextAsker_1 (Nat.le_of_ble_eq_true rfl) rfl ?_
  have lp1 : ∀ (n1 : Nat) (k : Int), (na - k).toNat = n1 → (0 ≤ k ∧ k ≤ na) → (∀ a : Int, 0 ≤ a → a < k → ¬ (rI h (y + 33) a = 6 ∧ rI h (y + 38) a < no)) → mEv TB0 ad M_X5_nextAsker (dd + 1) (0, 0) (mCal TB0 ad (dd + 0)) (fun v h' z => z.1 = 0 ∧ Q v h') 3 [some (.ref y), some (.int (zI na)), some (.int (zI no)), some (.ref (y + 33)), some (.int (zI k))] [] h (0, 0) := by
    intro n1
    induction n1 using Nat.strongRecOn with
    | ind n1 ih1 =>
    intro k  hn1  I1 I3
    refine e_iload dX5_nextAsker_3 rfl ?_
    refine e_iload_n dX5_nextAsker_5 rfl ?_
    refine z_icmp_ge 45 dX5_nextAsker_6 rfl ⟨by omega, by omega⟩ ⟨by omega, by omega⟩ (fun c2 => ?_) (fun c2 => ?_)
    · skip
      refine z_iconst (-1) dX5_nextAsker_45 rfl ?_
      refine z_iret dX5_nextAsker_46 rfl ⟨rfl, ?_⟩
      refine kq _ ?_
      first | exact Or.inl ⟨rfl, fun a u v => I3 a u (by omega)⟩ | exact Or.inr ⟨by omega, by omega, by omega⟩
    · skip
      refine e_iload dX5_nextAsker_9 rfl ?_
      refine z_bipush (6) dX5_nextAsker_11 rfl ?_
      refine z_icmp_ge 45 dX5_nextAsker_13 rfl ⟨by omega, by omega⟩ ⟨by omega, by omega⟩ (fun c3 => ?_) (fun c3 => ?_)
      · skip
        refine z_iconst (-1) dX5_nextAsker_45 rfl ?_
        refine z_iret dX5_nextAsker_46 rfl ⟨rfl, ?_⟩
        refine kq _ ?_
        first | exact Or.inl ⟨rfl, fun a u v => I3 a u (by omega)⟩ | exact Or.inr ⟨by omega, by omega, by omega⟩
      · skip
        refine e_aload_n dX5_nextAsker_16 rfl ?_
        refine e_iload dX5_nextAsker_17 rfl ?_
        refine z_ild (rI h (y + 33) k) dX5_nextAsker_19 (ma_s33 hk) (by decide) (by omega) (by omega) rfl ?_
        have y4 := rI_i h (y + 33) k
        refine z_bipush (6) dX5_nextAsker_20 rfl ?_
        refine z_icmp_ne 39 dX5_nextAsker_22 rfl ⟨by omega, by omega⟩ ⟨by omega, by omega⟩ (fun c5 => ?_) (fun c5 => ?_)
        · skip
          refine z_iinc (L' := [_, _, _, _, _]) dX5_nextAsker_39 rfl rfl ?_
          refine e_goto 3 dX5_nextAsker_42 rfl ?_
          exact ih1 _ (by omega) (k + 1)  rfl  (by omega) (fun a u v => by
                    by_cases z : a = k
                    · rw [z]; omega
                    · exact I3 a u (by omega))
        · skip
          refine e_aload_n dX5_nextAsker_25 rfl ?_
          refine e_get (.ref (y + 38)) dX5_nextAsker_26 tf_5_37 (congrArg Prod.fst (ma_s0 hk)) (congrArg va_rf (ma_r0_7 hk)) ?_
          refine e_iload dX5_nextAsker_29 rfl ?_
          refine z_ild (rI h (y + 38) k) dX5_nextAsker_31 (ma_s38 hk) (by decide) (by omega) (by omega) rfl ?_
          have y6 := rI_i h (y + 38) k
          refine e_iload_n dX5_nextAsker_32 rfl ?_
          refine z_icmp_ge 39 dX5_nextAsker_33 rfl ⟨by omega, by omega⟩ ⟨by omega, by omega⟩ (fun c7 => ?_) (fun c7 => ?_)
          · skip
            refine z_iinc (L' := [_, _, _, _, _]) dX5_nextAsker_39 rfl rfl ?_
            refine e_goto 3 dX5_nextAsker_42 rfl ?_
            exact ih1 _ (by omega) (k + 1)  rfl  (by omega) (fun a u v => by
                      by_cases z : a = k
                      · rw [z]; omega
                      · exact I3 a u (by omega))
          · skip
            refine e_iload dX5_nextAsker_36 rfl ?_
            refine z_iret dX5_nextAsker_38 rfl ⟨rfl, ?_⟩
            refine kq _ ?_
            first | exact Or.inl ⟨rfl, fun a u v => I3 a u (by omega)⟩ | exact Or.inr ⟨by omega, by omega, by omega⟩
  exact lp1 _ 0  rfl  (by omega) (fun a u v => by omega)
set_option maxHeartbeats 400000 in
theorem zp_X5_ranked_0 {ad : mA} {dd : Nat} {h : mH} {Q : mQ} {y : Nat} {g : Int → Int} (hk : mak h y) (HD : bdC h y g)  (a : Int) (a_r : -2147483648 ≤ a ∧ a < 2147483648) (w : Int) (w_r : -2147483648 ≤ w ∧ w < 2147483648) (no : Int) (no_r : -2147483648 ≤ no ∧ no < 2147483648) (n6 : (0 ≤ nd g ∧ nd g ≤ 6) ∧ (0 ≤ nu g ∧ nu g ≤ 6)) (pa : 0 ≤ a ∧ a < nd g) (pn : no = nu g) (kq : ∀ v : Int, (rnP (dR g) no a w v) → Q (some (.int (zI v))) h) : mCal TB0 ad (dd + 1) M_X5_ranked [.ref (y + 40), .int (zI a), .int (zI w), .int (zI no)] h 0 0 Q := by
  refine ⟨Nat.le_of_ble_eq_true rfl, ?_⟩
  show mEv TB0 ad M_X5_ranked (dd + 1) (0, 0) (mCal TB0 ad (dd + 0)) (fun v h' z => z.1 = 0 ∧ Q v h') 0 [some (.ref (y + 40)), some (.int (zI a)), some (.int (zI w)), some (.int (zI no)), none] [] h (0, 0)
  refine z_iconst (0) dX5_ranked_0 rfl ?_
  refine e_istore (L' := [_, _, _, _, _]) dX5_ranked_1 (Nat.le_of_ble_eq_true rfl) rfl ?_
  have lp1 : ∀ (n1 : Nat) (k : Int), (no - k).toNat = n1 → (0 ≤ k ∧ k ≤ no) → (∀ b : Int, 0 ≤ b → b < k → dR g a b ≠ w) → mEv TB0 ad M_X5_ranked (dd + 1) (0, 0) (mCal TB0 ad (dd + 0)) (fun v h' z => z.1 = 0 ∧ Q v h') 3 [some (.ref (y + 40)), some (.int (zI a)), some (.int (zI w)), some (.int (zI no)), some (.int (zI k))] [] h (0, 0) := by
    intro n1
    induction n1 using Nat.strongRecOn with
    | ind n1 ih1 =>
    intro k  hn1  I1 I3
    refine e_iload dX5_ranked_3 rfl ?_
    refine e_iload_n dX5_ranked_5 rfl ?_
    refine z_icmp_ge 38 dX5_ranked_6 rfl ⟨by omega, by omega⟩ ⟨by omega, by omega⟩ (fun c2 => ?_) (fun c2 => ?_)
    · skip
      refine z_iconst (-1) dX5_ranked_38 rfl ?_
      refine z_iret dX5_ranked_39 rfl ⟨rfl, ?_⟩
      refine kq _ ?_
      first | exact Or.inl ⟨rfl, fun c u v => I3 c u (by omega)⟩ | exact Or.inr ⟨by omega, by omega⟩
    · skip
      refine e_iload dX5_ranked_9 rfl ?_
      refine z_bipush (6) dX5_ranked_11 rfl ?_
      refine z_icmp_ge 38 dX5_ranked_13 rfl ⟨by omega, by omega⟩ ⟨by omega, by omega⟩ (fun c3 => ?_) (fun c3 => ?_)
      · skip
        refine z_iconst (-1) dX5_ranked_38 rfl ?_
        refine z_iret dX5_ranked_39 rfl ⟨rfl, ?_⟩
        refine kq _ ?_
        first | exact Or.inl ⟨rfl, fun c u v => I3 c u (by omega)⟩ | exact Or.inr ⟨by omega, by omega⟩
      · skip
        refine e_aload_n dX5_ranked_16 rfl ?_
        refine e_iload_n dX5_ranked_17 rfl ?_
        refine z_bipush (7) dX5_ranked_18 rfl ?_
        refine z_imul dX5_ranked_20 ?_
        refine e_iload dX5_ranked_21 rfl ?_
        refine z_iadd dX5_ranked_23 ?_
        refine z_ild (dR g a k) dX5_ranked_24 (ma_s40 hk) (by decide) (by omega) (by omega) (HD.2.2.2.1 a k (by omega) (by omega) (by omega) (by omega)) ?_
        have y4 := @dR_b g (by omega) a k (by omega)
        refine e_iload_n dX5_ranked_25 rfl ?_
        refine z_icmp_ne 32 dX5_ranked_26 rfl ⟨by omega, by omega⟩ ⟨by omega, by omega⟩ (fun c5 => ?_) (fun c5 => ?_)
        · skip
          refine z_iinc (L' := [_, _, _, _, _]) dX5_ranked_32 rfl rfl ?_
          refine e_goto 3 dX5_ranked_35 rfl ?_
          exact ih1 _ (by omega) (k + 1)  rfl  (by omega) (fun c u v => by
                    by_cases z : c = k
                    · rw [z]; omega
                    · exact I3 c u (by omega))
        · skip
          refine e_iload dX5_ranked_29 rfl ?_
          refine z_iret dX5_ranked_31 rfl ⟨rfl, ?_⟩
          refine kq _ ?_
          first | exact Or.inl ⟨rfl, fun c u v => I3 c u (by omega)⟩ | exact Or.inr ⟨by omega, by omega⟩
  exact lp1 _ 0  rfl  (by omega) (fun a u v => by omega)
set_option maxHeartbeats 400000 in
theorem zp_X5_nextAsker_1 {ad : mA} {dd : Nat} {h : mH} {Q : mQ} {y : Nat}  (hk : mak h y)  (na : Int) (na_r : -2147483648 ≤ na ∧ na < 2147483648) (no : Int) (no_r : -2147483648 ≤ no ∧ no < 2147483648) (pn : 0 ≤ na ∧ na ≤ 6) (kq : ∀ v : Int, (naP h y 34 na no v) → Q (some (.int (zI v))) h) : mCal TB0 ad (dd + 1) M_X5_nextAsker [.ref y, .int (zI na), .int (zI no), .ref (y + 34)] h 0 0 Q := by
  refine ⟨Nat.le_of_ble_eq_true rfl, ?_⟩
  show mEv TB0 ad M_X5_nextAsker (dd + 1) (0, 0) (mCal TB0 ad (dd + 0)) (fun v h' z => z.1 = 0 ∧ Q v h') 0 [some (.ref y), some (.int (zI na)), some (.int (zI no)), some (.ref (y + 34)), none] [] h (0, 0)
  refine z_iconst (0) dX5_nextAsker_0 rfl ?_
  refine e_istore (L' := [_, _, _, _, _]) dX5_nextAsker_1 (Nat.le_of_ble_eq_true rfl) rfl ?_
  have lp1 : ∀ (n1 : Nat) (k : Int), (na - k).toNat = n1 → (0 ≤ k ∧ k ≤ na) → (∀ a : Int, 0 ≤ a → a < k → ¬ (rI h (y + 34) a = 6 ∧ rI h (y + 38) a < no)) → mEv TB0 ad M_X5_nextAsker (dd + 1) (0, 0) (mCal TB0 ad (dd + 0)) (fun v h' z => z.1 = 0 ∧ Q v h') 3 [some (.ref y), some (.int (zI na)), some (.int (zI no)), some (.ref (y + 34)), some (.int (zI k))] [] h (0, 0) := by
    intro n1
    induction n1 using Nat.strongRecOn with
    | ind n1 ih1 =>
    intro k  hn1  I1 I3
    refine e_iload dX5_nextAsker_3 rfl ?_
    refine e_iload_n dX5_nextAsker_5 rfl ?_
    refine z_icmp_ge 45 dX5_nextAsker_6 rfl ⟨by omega, by omega⟩ ⟨by omega, by omega⟩ (fun c2 => ?_) (fun c2 => ?_)
    · skip
      refine z_iconst (-1) dX5_nextAsker_45 rfl ?_
      refine z_iret dX5_nextAsker_46 rfl ⟨rfl, ?_⟩
      refine kq _ ?_
      first | exact Or.inl ⟨rfl, fun a u v => I3 a u (by omega)⟩ | exact Or.inr ⟨by omega, by omega, by omega⟩
    · skip
      refine e_iload dX5_nextAsker_9 rfl ?_
      refine z_bipush (6) dX5_nextAsker_11 rfl ?_
      refine z_icmp_ge 45 dX5_nextAsker_13 rfl ⟨by omega, by omega⟩ ⟨by omega, by omega⟩ (fun c3 => ?_) (fun c3 => ?_)
      · skip
        refine z_iconst (-1) dX5_nextAsker_45 rfl ?_
        refine z_iret dX5_nextAsker_46 rfl ⟨rfl, ?_⟩
        refine kq _ ?_
        first | exact Or.inl ⟨rfl, fun a u v => I3 a u (by omega)⟩ | exact Or.inr ⟨by omega, by omega, by omega⟩
      · skip
        refine e_aload_n dX5_nextAsker_16 rfl ?_
        refine e_iload dX5_nextAsker_17 rfl ?_
        refine z_ild (rI h (y + 34) k) dX5_nextAsker_19 (ma_s34 hk) (by decide) (by omega) (by omega) rfl ?_
        have y4 := rI_i h (y + 34) k
        refine z_bipush (6) dX5_nextAsker_20 rfl ?_
        refine z_icmp_ne 39 dX5_nextAsker_22 rfl ⟨by omega, by omega⟩ ⟨by omega, by omega⟩ (fun c5 => ?_) (fun c5 => ?_)
        · skip
          refine z_iinc (L' := [_, _, _, _, _]) dX5_nextAsker_39 rfl rfl ?_
          refine e_goto 3 dX5_nextAsker_42 rfl ?_
          exact ih1 _ (by omega) (k + 1)  rfl  (by omega) (fun a u v => by
                    by_cases z : a = k
                    · rw [z]; omega
                    · exact I3 a u (by omega))
        · skip
          refine e_aload_n dX5_nextAsker_25 rfl ?_
          refine e_get (.ref (y + 38)) dX5_nextAsker_26 tf_5_37 (congrArg Prod.fst (ma_s0 hk)) (congrArg va_rf (ma_r0_7 hk)) ?_
          refine e_iload dX5_nextAsker_29 rfl ?_
          refine z_ild (rI h (y + 38) k) dX5_nextAsker_31 (ma_s38 hk) (by decide) (by omega) (by omega) rfl ?_
          have y6 := rI_i h (y + 38) k
          refine e_iload_n dX5_nextAsker_32 rfl ?_
          refine z_icmp_ge 39 dX5_nextAsker_33 rfl ⟨by omega, by omega⟩ ⟨by omega, by omega⟩ (fun c7 => ?_) (fun c7 => ?_)
          · skip
            refine z_iinc (L' := [_, _, _, _, _]) dX5_nextAsker_39 rfl rfl ?_
            refine e_goto 3 dX5_nextAsker_42 rfl ?_
            exact ih1 _ (by omega) (k + 1)  rfl  (by omega) (fun a u v => by
                      by_cases z : a = k
                      · rw [z]; omega
                      · exact I3 a u (by omega))
          · skip
            refine e_iload dX5_nextAsker_36 rfl ?_
            refine z_iret dX5_nextAsker_38 rfl ⟨rfl, ?_⟩
            refine kq _ ?_
            first | exact Or.inl ⟨rfl, fun a u v => I3 a u (by omega)⟩ | exact Or.inr ⟨by omega, by omega, by omega⟩
  exact lp1 _ 0  rfl  (by omega) (fun a u v => by omega)
set_option maxHeartbeats 400000 in
theorem zp_X5_ranked_1 {ad : mA} {dd : Nat} {h : mH} {Q : mQ} {y : Nat} {g : Int → Int} (hk : mak h y) (HD : bdC h y g)  (a : Int) (a_r : -2147483648 ≤ a ∧ a < 2147483648) (w : Int) (w_r : -2147483648 ≤ w ∧ w < 2147483648) (no : Int) (no_r : -2147483648 ≤ no ∧ no < 2147483648) (n6 : (0 ≤ nd g ∧ nd g ≤ 6) ∧ (0 ≤ nu g ∧ nu g ≤ 6)) (pa : 0 ≤ a ∧ a < nu g) (pn : no = nd g) (kq : ∀ v : Int, (rnP (uR g) no a w v) → Q (some (.int (zI v))) h) : mCal TB0 ad (dd + 1) M_X5_ranked [.ref (y + 41), .int (zI a), .int (zI w), .int (zI no)] h 0 0 Q := by
  refine ⟨Nat.le_of_ble_eq_true rfl, ?_⟩
  show mEv TB0 ad M_X5_ranked (dd + 1) (0, 0) (mCal TB0 ad (dd + 0)) (fun v h' z => z.1 = 0 ∧ Q v h') 0 [some (.ref (y + 41)), some (.int (zI a)), some (.int (zI w)), some (.int (zI no)), none] [] h (0, 0)
  refine z_iconst (0) dX5_ranked_0 rfl ?_
  refine e_istore (L' := [_, _, _, _, _]) dX5_ranked_1 (Nat.le_of_ble_eq_true rfl) rfl ?_
  have lp1 : ∀ (n1 : Nat) (k : Int), (no - k).toNat = n1 → (0 ≤ k ∧ k ≤ no) → (∀ b : Int, 0 ≤ b → b < k → uR g a b ≠ w) → mEv TB0 ad M_X5_ranked (dd + 1) (0, 0) (mCal TB0 ad (dd + 0)) (fun v h' z => z.1 = 0 ∧ Q v h') 3 [some (.ref (y + 41)), some (.int (zI a)), some (.int (zI w)), some (.int (zI no)), some (.int (zI k))] [] h (0, 0) := by
    intro n1
    induction n1 using Nat.strongRecOn with
    | ind n1 ih1 =>
    intro k  hn1  I1 I3
    refine e_iload dX5_ranked_3 rfl ?_
    refine e_iload_n dX5_ranked_5 rfl ?_
    refine z_icmp_ge 38 dX5_ranked_6 rfl ⟨by omega, by omega⟩ ⟨by omega, by omega⟩ (fun c2 => ?_) (fun c2 => ?_)
    · skip
      refine z_iconst (-1) dX5_ranked_38 rfl ?_
      refine z_iret dX5_ranked_39 rfl ⟨rfl, ?_⟩
      refine kq _ ?_
      first | exact Or.inl ⟨rfl, fun c u v => I3 c u (by omega)⟩ | exact Or.inr ⟨by omega, by omega⟩
    · skip
      refine e_iload dX5_ranked_9 rfl ?_
      refine z_bipush (6) dX5_ranked_11 rfl ?_
      refine z_icmp_ge 38 dX5_ranked_13 rfl ⟨by omega, by omega⟩ ⟨by omega, by omega⟩ (fun c3 => ?_) (fun c3 => ?_)
      · skip
        refine z_iconst (-1) dX5_ranked_38 rfl ?_
        refine z_iret dX5_ranked_39 rfl ⟨rfl, ?_⟩
        refine kq _ ?_
        first | exact Or.inl ⟨rfl, fun c u v => I3 c u (by omega)⟩ | exact Or.inr ⟨by omega, by omega⟩
      · skip
        refine e_aload_n dX5_ranked_16 rfl ?_
        refine e_iload_n dX5_ranked_17 rfl ?_
        refine z_bipush (7) dX5_ranked_18 rfl ?_
        refine z_imul dX5_ranked_20 ?_
        refine e_iload dX5_ranked_21 rfl ?_
        refine z_iadd dX5_ranked_23 ?_
        refine z_ild (uR g a k) dX5_ranked_24 (ma_s41 hk) (by decide) (by omega) (by omega) (HD.2.2.2.2 a k (by omega) (by omega) (by omega) (by omega)) ?_
        have y4 := @uR_b g (by omega) a k (by omega)
        refine e_iload_n dX5_ranked_25 rfl ?_
        refine z_icmp_ne 32 dX5_ranked_26 rfl ⟨by omega, by omega⟩ ⟨by omega, by omega⟩ (fun c5 => ?_) (fun c5 => ?_)
        · skip
          refine z_iinc (L' := [_, _, _, _, _]) dX5_ranked_32 rfl rfl ?_
          refine e_goto 3 dX5_ranked_35 rfl ?_
          exact ih1 _ (by omega) (k + 1)  rfl  (by omega) (fun c u v => by
                    by_cases z : c = k
                    · rw [z]; omega
                    · exact I3 c u (by omega))
        · skip
          refine e_iload dX5_ranked_29 rfl ?_
          refine z_iret dX5_ranked_31 rfl ⟨rfl, ?_⟩
          refine kq _ ?_
          first | exact Or.inl ⟨rfl, fun c u v => I3 c u (by omega)⟩ | exact Or.inr ⟨by omega, by omega⟩
  exact lp1 _ 0  rfl  (by omega) (fun a u v => by omega)
