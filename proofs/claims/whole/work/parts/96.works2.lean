/-! WORKS: the reference's search, its steps -/
/-! WORKS: the reference's search -/
def rWk (h : mH) (m : Nat) (w : Int → Int) (n : Int) : Prop := ∀ c : Int, 0 ≤ c → c < n → rI h (m + 23) c = w c
theorem rWk_c {S : Nat → Nat → Prop} {h h1 : mH} {m : Nat} {w : Int → Int} {n : Int} (f : frm S h h1) (z : ∀ a k, a = m + 23 → ¬ S a k) (H : rWk h m w n) : rWk h1 m w n := fun c a e => (frm_r f (z _ _ rfl)).trans (H c a e)
theorem sum_6 {F : Int → Int} {n : Int} (h0 : 0 ≤ n) (h1 : n ≤ 6) : sumZ F n.toNat = sm6 (fun o => if o < n then F o else 0) := by
  have e0 : sumZ F 0 = 0 := rfl
  have e1 : sumZ F 1 = 0 + F 0 := rfl
  have e2 : sumZ F 2 = 0 + F 0 + F 1 := rfl
  have e3 : sumZ F 3 = 0 + F 0 + F 1 + F 2 := rfl
  have e4 : sumZ F 4 = 0 + F 0 + F 1 + F 2 + F 3 := rfl
  have e5 : sumZ F 5 = 0 + F 0 + F 1 + F 2 + F 3 + F 4 := rfl
  have e6 : sumZ F 6 = 0 + F 0 + F 1 + F 2 + F 3 + F 4 + F 5 := rfl
  unfold sm6
  dsimp only
  rcases (show n = 0 ∨ n = 1 ∨ n = 2 ∨ n = 3 ∨ n = 4 ∨ n = 5 ∨ n = 6 by omega) with q | q | q | q | q | q | q <;> subst q
  · rw [show (0 : Int).toNat = 0 from rfl, e0]; simp
  · rw [show (1 : Int).toNat = 1 from rfl, e1]; simp
  · rw [show (2 : Int).toNat = 2 from rfl, e2]; simp
  · rw [show (3 : Int).toNat = 3 from rfl, e3]; simp
  · rw [show (4 : Int).toNat = 4 from rfl, e4]; simp
  · rw [show (5 : Int).toNat = 5 from rfl, e5]; simp
  · rw [show (6 : Int).toNat = 6 from rfl, e6]; simp
theorem ah_n {g w : Int → Int} {d n c : Int} (h0 : 0 ≤ n) (h1 : n ≤ 6) : sumZ (fun o => bZ (w o = d ∧ dy g o < dy g c)) n.toNat = ahG g (fun o => o < n ∧ w o = d) c := by
  rw [sum_6 h0 h1]
  exact sm6_e (fun o a b => by
    by_cases q : o < n
    · rw [if_pos q]; exact bZ_iff ⟨fun z => ⟨⟨q, z.1⟩, z.2⟩, fun z => ⟨z.1.2, z.2⟩⟩
    · rw [if_neg q, bZ_0 (fun z => q z.1.1)])
def posZ (w : Int → Int) (N n : Int) : Int := if n < 0 then 117649 else if n = N then cdZ w n else cdZ w n + (w n + 1) * scZ (n + 1)
def phZ (w : Int → Int) (N n : Int) : Int := if n < 0 then 0 else if n = N ∨ w n = -1 then N - n + 1 else 9 + n
def FW (g w : Int → Int) (n v : Int) : Prop := (-1 ≤ n ∧ n ≤ nc g) ∧ (∀ c, 0 ≤ c → c < n → okD g w c) ∧ (0 ≤ n → n < nc g → -1 ≤ w n ∧ w n ≤ 6) ∧ fmax (vaW g) (suW g) (posZ w (nc g) n) v
def muW (g w : Int → Int) (n : Int) : Int := 20 * (117649 - posZ w (nc g) n) + phZ w (nc g) n
theorem okD_b {g w : Int → Int} {c : Int} (n : nd g ≤ 6) (h : okD g w c) : 0 ≤ w c ∧ w c ≤ 6 := by
  rcases h with q | q <;> omega
theorem okD_bs {g w : Int → Int} {n : Int} (hn : nd g ≤ 6) (h : ∀ c, 0 ≤ c → c < n → okD g w c) : ∀ c, 0 ≤ c → c < n → 0 ≤ w c ∧ w c ≤ 6 := fun c a e => okD_b hn (h c a e)
theorem mul7 (a : Int) {s : Int} : a * (7 * s) = 7 * (a * s) := by rw [← Int.mul_assoc, Int.mul_comm a 7, Int.mul_assoc]
theorem pos_in {g w : Int → Int} {n v : Int} (hn : nd g ≤ 6) (h6 : 0 ≤ nc g ∧ nc g ≤ 6) (H : FW g w n v) : 0 ≤ posZ w (nc g) n ∧ posZ w (nc g) n ≤ 117649 := by
  obtain ⟨h1, h2, h3, -⟩ := H
  unfold posZ
  by_cases q : n < 0
  · rw [if_pos q]; omega
  · rw [if_neg q]
    have b := cd_b (w := w) (n := n) (by omega) (by omega) (okD_bs hn h2)
    have s0 := sc_b (n := n) (by omega) (by omega)
    by_cases q2 : n = nc g
    · rw [if_pos q2]; omega
    · rw [if_neg q2]
      have s := sc_s (n := n) (by omega) (by omega)
      have w3 := h3 (by omega) (by omega)
      have m1 : 0 ≤ (w n + 1) * scZ (n + 1) := Int.mul_nonneg (by omega) (by omega)
      have m2 : (w n + 1) * scZ (n + 1) ≤ 7 * scZ (n + 1) := Int.mul_le_mul_of_nonneg_right (by omega) (by omega)
      omega
theorem ph_b {w : Int → Int} {N n : Int} (hN : 0 ≤ N ∧ N ≤ 6) (h : n ≤ N) : 0 ≤ phZ w N n ∧ phZ w N n ≤ 15 := by
  unfold phZ
  split
  · omega
  · split <;> omega
/-- a place is given up: one goes on at the place before it -/
theorem pos_dn {w w' : Int → Int} {N n : Int} (h0 : 0 ≤ n) (h1 : n ≤ N) (h6 : N ≤ 6) (e : ∀ c, 0 ≤ c → c < n → w' c = w c) : posZ w' N (n - 1) = cdZ w n + scZ n := by
  unfold posZ
  by_cases q : n = 0
  · subst q; rw [if_pos (by omega), cd_0, sc_0]; omega
  · rw [if_neg (by omega), if_neg (by omega), cd_e (w := w') (w' := w) (n := n - 1) (fun c a b => e c a (by omega)), e (n - 1) (by omega) (by omega)]
    have s := cd_s (w := w) (n := n - 1) (by omega)
    rw [show n - 1 + 1 = n by omega] at s ⊢
    rw [s, Int.add_mul, Int.one_mul]; omega
theorem FW_leaf {g w : Int → Int} {v v' : Int} (hn : nd g ≤ 6) (h6 : 0 ≤ nc g ∧ nc g ≤ 6) (H : FW g w (nc g) v) (q : (v' = cdZ w (nc g) ∧ (v = -1 ∨ suW g v < suV g w (nc g))) ∨ (v' = v ∧ v ≠ -1 ∧ suV g w (nc g) ≤ suW g v)) : FW g w (nc g - 1) v' ∧ muW g w (nc g - 1) < muW g w (nc g) ∧ 0 ≤ muW g w (nc g - 1) := by
  have pb := pos_in hn h6 H
  obtain ⟨h1, h2, h3, h4⟩ := H
  have s0 := sc_b h6.1 h6.2
  obtain ⟨l1, l2⟩ := va_leaf h6.1 h6.2 (okD_bs hn h2) h2
  have b := cd_b (w := w) h6.1 h6.2 (okD_bs hn h2)
  have p0 : posZ w (nc g) (nc g) = cdZ w (nc g) := by unfold posZ; rw [if_neg (by omega), if_pos rfl]
  have p1 : posZ w (nc g) (nc g - 1) = cdZ w (nc g) + scZ (nc g) := pos_dn h6.1 (Int.le_refl _) h6.2 (fun c _ _ => rfl)
  rw [p0] at h4 pb
  have f1 : fmax (vaW g) (suW g) (cdZ w (nc g) + 1) v' := by
    rcases q with ⟨q1, q2⟩ | ⟨q1, q2, q3⟩
    · rw [q1]; exact fmax_new h4 b.1 l1 (by rw [l2]; exact q2)
    · rw [q1]; exact fmax_keep h4 q2 (by rw [l2]; exact q3)
  have f2 : fmax (vaW g) (suW g) (cdZ w (nc g) + scZ (nc g)) v' := fmax_skip f1 (by omega) (fun k a c z => by
    have := cd_one h6.1 h6.2 (show cdZ w (nc g) ≤ k by omega) c z.1
    omega)
  have H' : FW g w (nc g - 1) v' := ⟨by omega, fun c a e => h2 c a (by omega), fun a e => by have := okD_b hn (h2 (nc g - 1) a (by omega)); omega, by rw [p1]; exact f2⟩
  have a1 := ph_b (w := w) h6 (show nc g ≤ nc g by omega)
  have a2 := ph_b (w := w) h6 (show nc g - 1 ≤ nc g by omega)
  unfold muW
  rw [p0, p1]
  exact ⟨H', by omega, by omega⟩
theorem FW_down {g w w' : Int → Int} {n v : Int} (hn : nd g ≤ 6) (h6 : 0 ≤ nc g ∧ nc g ≤ 6) (H : FW g w n v) (h0 : 0 ≤ n) (h1 : n < nc g) (e6 : w n = 6) (e : ∀ c, 0 ≤ c → c < n → w' c = w c) : FW g w' (n - 1) v ∧ muW g w' (n - 1) < muW g w n ∧ 0 ≤ muW g w' (n - 1) := by
  have pb := pos_in hn h6 H
  obtain ⟨g1, g2, g3, g4⟩ := H
  have s := sc_s h0 (show n < 6 by omega)
  have p0 : posZ w (nc g) n = cdZ w n + scZ n := by
    unfold posZ
    rw [if_neg (by omega), if_neg (by omega), e6, s.1]; omega
  have p1 : posZ w' (nc g) (n - 1) = cdZ w n + scZ n := pos_dn h0 (by omega) h6.2 e
  have g2' : ∀ c, 0 ≤ c → c < n → okD g w' c := fun c a b => okD_e a (fun o u z => (e o u (by omega)).symm) (g2 c a b)
  have H' : FW g w' (n - 1) v := ⟨by omega, fun c a b => g2' c a (by omega), fun a b => by have := okD_b hn (g2' (n - 1) a (by omega)); omega, by rw [p1, ← p0]; exact g4⟩
  have f0 : phZ w (nc g) n = 9 + n := by unfold phZ; rw [if_neg (by omega), if_neg (by omega)]
  have f1 : phZ w' (nc g) (n - 1) ≤ 9 + n - 1 ∧ 0 ≤ phZ w' (nc g) (n - 1) := by
    unfold phZ
    by_cases q : n - 1 < 0
    · rw [if_pos q]; omega
    · have := okD_b hn (g2' (n - 1) (by omega) (by omega))
      rw [if_neg q, if_neg (by omega)]; omega
  unfold muW
  rw [p0, p1, f0]
  rw [p0] at pb
  exact ⟨H', by omega, by omega⟩
theorem FW_up {g w w' : Int → Int} {n v : Int} (hn : nd g ≤ 6) (h6 : 0 ≤ nc g ∧ nc g ≤ 6) (H : FW g w n v) (h0 : 0 ≤ n) (h1 : n < nc g) (e : ∀ c, 0 ≤ c → c < n → w' c = w c) (en : w' n = w n + 1) (ok : okD g w' n) (e1 : n + 1 < nc g → w' (n + 1) = -1) : FW g w' (n + 1) v ∧ muW g w' (n + 1) < muW g w n ∧ 0 ≤ muW g w' (n + 1) := by
  have pb := pos_in hn h6 H
  obtain ⟨g1, g2, g3, g4⟩ := H
  have g3 := g3 h0 h1
  have p0 : posZ w (nc g) n = cdZ w n + (w n + 1) * scZ (n + 1) := by unfold posZ; rw [if_neg (by omega), if_neg (by omega)]
  have p1 : posZ w' (nc g) (n + 1) = cdZ w n + (w n + 1) * scZ (n + 1) := by
    have s : cdZ w' (n + 1) = cdZ w n + (w n + 1) * scZ (n + 1) := by rw [cd_s h0, en, cd_e (w := w') (w' := w) (n := n) e]
    unfold posZ
    rw [if_neg (by omega)]
    by_cases q : n + 1 = nc g
    · rw [if_pos q, s]
    · rw [if_neg q, s, e1 (by omega)]; omega
  have g2' : ∀ c, 0 ≤ c → c < n + 1 → okD g w' c := fun c a b => by
    by_cases q : c = n
    · rw [q]; exact ok
    · exact okD_e a (fun o u z => (e o u (by omega)).symm) (g2 c a (by omega))
  have H' : FW g w' (n + 1) v := ⟨by omega, g2', fun a b => by rw [e1 b]; omega, by rw [p1, ← p0]; exact g4⟩
  have f1 : phZ w' (nc g) (n + 1) = nc g - n := by
    unfold phZ
    by_cases q : n + 1 = nc g
    · rw [if_neg (by omega), if_pos (Or.inl q)]; omega
    · rw [if_neg (by omega), if_pos (Or.inr (e1 (by omega)))]; omega
  have f0 : nc g - n + 1 ≤ phZ w (nc g) n := by
    unfold phZ
    rw [if_neg (by omega)]
    split <;> omega
  unfold muW
  rw [p0, p1, f1]
  rw [p0] at pb
  exact ⟨H', by omega, by omega⟩
theorem FW_skip {g w w' : Int → Int} {n v : Int} (hn : nd g ≤ 6) (h6 : 0 ≤ nc g ∧ nc g ≤ 6) (H : FW g w n v) (h0 : 0 ≤ n) (h1 : n < nc g) (e : ∀ c, 0 ≤ c → c < n → w' c = w c) (en : w' n = w n + 1) (l : w n < 6) (no : ¬ okD g w' n) : FW g w' n v ∧ muW g w' n < muW g w n ∧ 0 ≤ muW g w' n := by
  have pb := pos_in hn h6 H
  obtain ⟨g1, g2, g3, g4⟩ := H
  have g3 := g3 h0 h1
  have s := sc_s h0 (show n < 6 by omega)
  have p0 : posZ w (nc g) n = cdZ w n + (w n + 1) * scZ (n + 1) := by unfold posZ; rw [if_neg (by omega), if_neg (by omega)]
  have p1 : posZ w' (nc g) n = cdZ w n + (w n + 1) * scZ (n + 1) + scZ (n + 1) := by
    unfold posZ
    rw [if_neg (by omega), if_neg (by omega), en, cd_e (w := w') (w' := w) (n := n) e, Int.add_mul (w n + 1) 1, Int.one_mul]; omega
  have g2' : ∀ c, 0 ≤ c → c < n → okD g w' c := fun c a b => okD_e a (fun o u z => (e o u (by omega)).symm) (g2 c a b)
  have ec : cdZ w' (n + 1) = cdZ w n + (w n + 1) * scZ (n + 1) := by rw [cd_s h0, en, cd_e (w := w') (w' := w) (n := n) e]
  have hb : ∀ c, 0 ≤ c → c < n + 1 → 0 ≤ w' c ∧ w' c ≤ 6 := fun c a b => by
    by_cases q : c = n
    · rw [q, en]; omega
    · exact okD_b hn (g2' c a (by omega))
  have H' : FW g w' n v := ⟨by omega, g2', fun a b => by omega, by
    rw [p1]
    rw [p0] at g4
    exact fmax_skip g4 (by omega) (fun k a c z => no (va_pre (n := n + 1) (by omega) (by omega) h6.2 hb (by omega) (by omega) z h0 (by omega)))⟩
  have pb' := pos_in hn h6 H'
  have a1 := ph_b (w := w) h6 (show n ≤ nc g by omega)
  have a2 := ph_b (w := w') h6 (show n ≤ nc g by omega)
  unfold muW
  rw [p0, p1]
  rw [p1] at pb'
  exact ⟨H', by omega, by omega⟩
