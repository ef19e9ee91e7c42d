/-! ROWS of the class: what the check of orders says -/
/-! ROWS of the class: what the check of orders says -/
def dN (K j : Nat) : Nat := K / 7 ^ (5 - j) % 7
def ctN (K : Nat) : Nat → Nat
  | 0 => 0
  | p + 1 => ctN K p + (if dN K p < 6 then 1 else 0)
def fuR (d u K : Nat) : Prop := (∀ j, j < 6 → dN K j = 6 ∨ (j < d ∧ dN K j < u)) ∧ (∀ i j, i < j → j < 6 → dN K i = dN K j → dN K i = 6) ∧ min d u ≤ ctN K 6
theorem ctN_hi {K d : Nat} (h : ∀ j, j < 6 → dN K j = 6 ∨ j < d) : ∀ n p, n + p = 6 → ctN K 6 ≤ ctN K p + (d - p) := by
  intro n
  induction n with
  | zero => intro p hp; rw [show p = 6 by omega]; omega
  | succ n ih =>
    intro p hp
    have a := ih (p + 1) (by omega)
    have e : ctN K (p + 1) = ctN K p + (if dN K p < 6 then 1 else 0) := rfl
    rw [e] at a
    by_cases q : dN K p < 6
    · rw [if_pos q] at a
      have := h p (by omega)
      omega
    · rw [if_neg q] at a; omega
def usP (K p us : Nat) : Prop := (us % 2 = 1 → ∃ j, j < p ∧ dN K j = 0) ∧ (us / 2 % 2 = 1 → ∃ j, j < p ∧ dN K j = 1) ∧ (us / 4 % 2 = 1 → ∃ j, j < p ∧ dN K j = 2) ∧ (us / 8 % 2 = 1 → ∃ j, j < p ∧ dN K j = 3) ∧ (us / 16 % 2 = 1 → ∃ j, j < p ∧ dN K j = 4) ∧ (us / 32 % 2 = 1 → ∃ j, j < p ∧ dN K j = 5)
theorem ex_up {K p x : Nat} (h : ∃ j, j < p ∧ dN K j = x) : ∃ j, j < p + 1 ∧ dN K j = x := by
  obtain ⟨j, a, c⟩ := h
  exact ⟨j, by omega, c⟩
theorem usP_6 {K p us : Nat} (h : usP K p us) : usP K (p + 1) us := ⟨fun z => ex_up (h.1 z), fun z => ex_up (h.2.1 z), fun z => ex_up (h.2.2.1 z), fun z => ex_up (h.2.2.2.1 z), fun z => ex_up (h.2.2.2.2.1 z), fun z => ex_up (h.2.2.2.2.2 z)⟩
theorem usP_0 {K p us : Nat} (h : usP K p us) (e : dN K p = 0) (q : us % 2 = 0) : usP K (p + 1) (us + 1) := ⟨fun _ => ⟨p, by omega, e⟩, fun z => ex_up (h.2.1 (by omega)), fun z => ex_up (h.2.2.1 (by omega)), fun z => ex_up (h.2.2.2.1 (by omega)), fun z => ex_up (h.2.2.2.2.1 (by omega)), fun z => ex_up (h.2.2.2.2.2 (by omega))⟩
theorem usP_1 {K p us : Nat} (h : usP K p us) (e : dN K p = 1) (q : us / 2 % 2 = 0) : usP K (p + 1) (us + 2) := ⟨fun z => ex_up (h.1 (by omega)), fun _ => ⟨p, by omega, e⟩, fun z => ex_up (h.2.2.1 (by omega)), fun z => ex_up (h.2.2.2.1 (by omega)), fun z => ex_up (h.2.2.2.2.1 (by omega)), fun z => ex_up (h.2.2.2.2.2 (by omega))⟩
theorem usP_2 {K p us : Nat} (h : usP K p us) (e : dN K p = 2) (q : us / 4 % 2 = 0) : usP K (p + 1) (us + 4) := ⟨fun z => ex_up (h.1 (by omega)), fun z => ex_up (h.2.1 (by omega)), fun _ => ⟨p, by omega, e⟩, fun z => ex_up (h.2.2.2.1 (by omega)), fun z => ex_up (h.2.2.2.2.1 (by omega)), fun z => ex_up (h.2.2.2.2.2 (by omega))⟩
theorem usP_3 {K p us : Nat} (h : usP K p us) (e : dN K p = 3) (q : us / 8 % 2 = 0) : usP K (p + 1) (us + 8) := ⟨fun z => ex_up (h.1 (by omega)), fun z => ex_up (h.2.1 (by omega)), fun z => ex_up (h.2.2.1 (by omega)), fun _ => ⟨p, by omega, e⟩, fun z => ex_up (h.2.2.2.2.1 (by omega)), fun z => ex_up (h.2.2.2.2.2 (by omega))⟩
theorem usP_4 {K p us : Nat} (h : usP K p us) (e : dN K p = 4) (q : us / 16 % 2 = 0) : usP K (p + 1) (us + 16) := ⟨fun z => ex_up (h.1 (by omega)), fun z => ex_up (h.2.1 (by omega)), fun z => ex_up (h.2.2.1 (by omega)), fun z => ex_up (h.2.2.2.1 (by omega)), fun _ => ⟨p, by omega, e⟩, fun z => ex_up (h.2.2.2.2.2 (by omega))⟩
theorem usP_5 {K p us : Nat} (h : usP K p us) (e : dN K p = 5) (q : us / 32 % 2 = 0) : usP K (p + 1) (us + 32) := ⟨fun z => ex_up (h.1 (by omega)), fun z => ex_up (h.2.1 (by omega)), fun z => ex_up (h.2.2.1 (by omega)), fun z => ex_up (h.2.2.2.1 (by omega)), fun z => ex_up (h.2.2.2.2.1 (by omega)), fun _ => ⟨p, by omega, e⟩⟩
theorem gp_s {d u lo hi K : Nat} (f : fuR d u K) (l1 : lo < K) (l2 : K < hi) : ∀ n p pc us pl, n + p = 6 → gpN d u lo hi n p pc us pl = true → K / 7 ^ n = pc → usP K p us → pl = ctN K p → False := by
  intro n
  induction n with
  | zero =>
    intro p pc us pl hp h e hu hl
    have e : K / 1 = pc := e
    have h2 : (!(Nat.blt lo pc && Nat.blt pc hi) || Nat.blt pl (min d u)) = true := h
    have a : Nat.blt lo pc = true := Nat.ble_eq_true_of_le (show lo + 1 ≤ pc by omega)
    have c : Nat.blt pc hi = true := Nat.ble_eq_true_of_le (show pc + 1 ≤ hi by omega)
    rw [a, c] at h2
    have h3 : Nat.blt pl (min d u) = true := h2
    have h4 : pl + 1 ≤ min d u := Nat.le_of_ble_eq_true h3
    have f3 := f.2.2
    rw [hl, show p = 6 by omega] at h4
    omega
  | succ n ih =>
    intro p pc us pl hp h e hu hl
    have q1 : K / 7 ^ n / 7 = pc := by rw [Nat.div_div_eq_div_mul, ← Nat.pow_succ]; exact e
    have x1 : dN K p = K / 7 ^ n % 7 := by unfold dN; rw [show 5 - p = n by omega]
    have q2 : K / 7 ^ n = pc * 7 + dN K p := by omega
    have cs : ctN K (p + 1) = ctN K p + (if dN K p < 6 then 1 else 0) := rfl
    have hM : 0 < 7 ^ (n + 1) := Nat.pow_pos (by omega)
    have e1 := Nat.div_add_mod K (7 ^ (n + 1))
    have e2 := Nat.mod_lt K hM
    have e3 : (pc + 1) * 7 ^ (n + 1) = 7 ^ (n + 1) * pc + 7 ^ (n + 1) := by rw [Nat.mul_comm, Nat.mul_succ]
    have e4 : pc * 7 ^ (n + 1) = 7 ^ (n + 1) * pc := Nat.mul_comm _ _
    have up := ctN_hi (fun j hj => (f.1 j hj).imp id (fun z => z.1)) (n + 1) p hp
    have f3 := f.2.2
    simp only [gpN] at h
    rw [e] at e1
    rw [e3, e4] at h
    generalize 7 ^ (n + 1) = M at *
    generalize M * pc = MP at *
    have nc : ¬ (MP + M ≤ lo + 1 ∨ hi ≤ MP ∨ pl + (d - p) < min d u) := by omega
    rw [if_neg nc] at h
    simp only [Bool.and_eq_true] at h
    obtain ⟨⟨⟨⟨⟨⟨h6, h0⟩, h1⟩, h2⟩, h3⟩, h4⟩, h5⟩ := h
    rcases f.1 p (by omega) with z | z
    · rw [if_neg (by omega)] at cs
      exact ih (p + 1) (pc * 7 + 6) us pl (by omega) h6 (by omega) (usP_6 hu) (by omega)
    · by_cases z6 : dN K p = 6
      · rw [if_neg (by omega)] at cs
        exact ih (p + 1) (pc * 7 + 6) us pl (by omega) h6 (by omega) (usP_6 hu) (by omega)
      have zb : dN K p < 7 := by rw [x1]; exact Nat.mod_lt _ (by omega)
      rw [if_pos (by omega)] at cs
      have no : ∀ x, dN K p = x → (∃ j, j < p ∧ dN K j = x) → False := fun x ex ⟨j, a, c⟩ => by
        have := f.2.1 j p a (by omega) (by omega)
        omega
      rcases (show dN K p = 0 ∨ dN K p = 1 ∨ dN K p = 2 ∨ dN K p = 3 ∨ dN K p = 4 ∨ dN K p = 5 by omega) with w | w | w | w | w | w
      · by_cases v : us % 2 = 0
        · rw [if_pos (by omega)] at h0
          exact ih (p + 1) (pc * 7) (us + 1) (pl + 1) (by omega) h0 (by omega) (usP_0 hu w v) (by omega)
        · exact no 0 w (hu.1 (by omega))
      · by_cases v : us / 2 % 2 = 0
        · rw [if_pos (by omega)] at h1
          exact ih (p + 1) (pc * 7 + 1) (us + 2) (pl + 1) (by omega) h1 (by omega) (usP_1 hu w v) (by omega)
        · exact no 1 w (hu.2.1 (by omega))
      · by_cases v : us / 4 % 2 = 0
        · rw [if_pos (by omega)] at h2
          exact ih (p + 1) (pc * 7 + 2) (us + 4) (pl + 1) (by omega) h2 (by omega) (usP_2 hu w v) (by omega)
        · exact no 2 w (hu.2.2.1 (by omega))
      · by_cases v : us / 8 % 2 = 0
        · rw [if_pos (by omega)] at h3
          exact ih (p + 1) (pc * 7 + 3) (us + 8) (pl + 1) (by omega) h3 (by omega) (usP_3 hu w v) (by omega)
        · exact no 3 w (hu.2.2.2.1 (by omega))
      · by_cases v : us / 16 % 2 = 0
        · rw [if_pos (by omega)] at h4
          exact ih (p + 1) (pc * 7 + 4) (us + 16) (pl + 1) (by omega) h4 (by omega) (usP_4 hu w v) (by omega)
        · exact no 4 w (hu.2.2.2.2.1 (by omega))
      · by_cases v : us / 32 % 2 = 0
        · rw [if_pos (by omega)] at h5
          exact ih (p + 1) (pc * 7 + 5) (us + 32) (pl + 1) (by omega) h5 (by omega) (usP_5 hu w v) (by omega)
        · exact no 5 w (hu.2.2.2.2.2 (by omega))
theorem dg_N {K : Nat} {k : Int} (a : 0 ≤ k) (c : k < 6) : dgZ (K : Int) k = ((dN K k.toNat : Nat) : Int) := by
  unfold dgZ dN
  rcases (show k = 0 ∨ k = 1 ∨ k = 2 ∨ k = 3 ∨ k = 4 ∨ k = 5 by omega) with q | q | q | q | q | q <;> subst q
  · show (K : Int) / scZ 1 % 7 = ((K / 16807 % 7 : Nat) : Int); rw [sc_1]; omega
  · show (K : Int) / scZ 2 % 7 = ((K / 2401 % 7 : Nat) : Int); rw [sc_2]; omega
  · show (K : Int) / scZ 3 % 7 = ((K / 343 % 7 : Nat) : Int); rw [sc_3]; omega
  · show (K : Int) / scZ 4 % 7 = ((K / 49 % 7 : Nat) : Int); rw [sc_4]; omega
  · show (K : Int) / scZ 5 % 7 = ((K / 7 % 7 : Nat) : Int); rw [sc_5]; omega
  · show (K : Int) / scZ 6 % 7 = ((K / 1 % 7 : Nat) : Int); rw [sc_6]; omega
theorem in_N (K : Nat) : ∀ n : Nat, n ≤ 6 → sumZ (fun d => bZ (dgZ (K : Int) d < 6)) n = ((ctN K n : Nat) : Int) := by
  intro n
  induction n with
  | zero => intro _; rfl
  | succ n ih =>
    intro hn
    have e : sumZ (fun d => bZ (dgZ (K : Int) d < 6)) (n + 1) = sumZ (fun d => bZ (dgZ (K : Int) d < 6)) n + bZ (dgZ (K : Int) (n : Int) < 6) := rfl
    have e2 : ctN K (n + 1) = ctN K n + (if dN K n < 6 then 1 else 0) := rfl
    have e3 := dg_N (K := K) (k := (n : Int)) (by omega) (by omega)
    rw [show (n : Int).toNat = n by omega] at e3
    rw [e, e2, ih (by omega), e3]
    by_cases q : dN K n < 6
    · rw [if_pos q, bZ_1 (by omega)]; omega
    · rw [if_neg q, bZ_0 (by omega)]; omega
/-- a full row, as a number -/
def fuK (g : Int → Int) (k : Int) : Prop := isRw g (dgZ k) ∧ min (nd g) (nu g) ≤ inR (dgZ k)
theorem fuK_R {g : Int → Int} (n : (0 ≤ nd g ∧ nd g ≤ 6) ∧ (0 ≤ nu g ∧ nu g ≤ 6)) {K : Nat} (h : fuK g (K : Int)) : fuR (nd g).toNat (nu g).toNat K := by
  refine ⟨fun j hj => ?_, fun i j hi hj e => ?_, ?_⟩
  · have e := dg_N (K := K) (k := (j : Int)) (by omega) (by omega)
    rw [show (j : Int).toNat = j by omega] at e
    rcases h.1 (j : Int) (by omega) (by omega) with q | q
    · left; omega
    · right; omega
  · have e1 := dg_N (K := K) (k := (i : Int)) (by omega) (by omega)
    have e2 := dg_N (K := K) (k := (j : Int)) (by omega) (by omega)
    rw [show (i : Int).toNat = i by omega] at e1
    rw [show (j : Int).toNat = j by omega] at e2
    rcases h.1 (i : Int) (by omega) (by omega) with q | q
    · omega
    · have := q.2 (j : Int) (by omega) (by omega) (by omega)
      omega
  · have e := in_N K 6 (by omega)
    have h2 : min (nd g) (nu g) ≤ sumZ (fun d => bZ (dgZ (K : Int) d < 6)) 6 := h.2
    rw [e] at h2
    omega
theorem gp_no {g : Int → Int} (n : (0 ≤ nd g ∧ nd g ≤ 6) ∧ (0 ≤ nu g ∧ nu g ≤ 6)) {lo hi : Nat} (hh : hi ≤ 117649) (h : gpN (nd g).toNat (nu g).toNat lo hi 6 0 0 0 0 = true) : ∀ k : Int, (lo : Int) < k → k < (hi : Int) → ¬ fuK g k := fun k a c f => by
  have e : k = ((k.toNat : Nat) : Int) := by omega
  rw [e] at f
  refine gp_s (fuK_R n f) (lo := lo) (hi := hi) (by omega) (by omega) 6 0 0 0 0 rfl h ?_ ⟨fun z => ?_, fun z => ?_, fun z => ?_, fun z => ?_, fun z => ?_, fun z => ?_⟩ rfl
  · show k.toNat / 117649 = 0; omega
  all_goals omega
theorem frc_e (n : Nat) (f : Nat → Bool) : frc n f = f n := by cases n <;> rfl
theorem ck_s {d u n c : Nat} (h : ckN d u (n + 1) c = true) : fuN d u c = true ∧ ((nxI d u (oI c) < 0 ∧ gpN d u (rcN d c) 117649 6 0 0 0 0 = true) ∨ (0 ≤ nxI d u (oI c) ∧ rcN d c < rcN d (cO (nxF d u (oI c))) ∧ gpN d u (rcN d c) (rcN d (cO (nxF d u (oI c)))) 6 0 0 0 0 = true ∧ ckN d u n (cO (nxF d u (oI c))) = true)) := by
  simp only [ckN, Bool.and_eq_true] at h
  refine ⟨h.1, ?_⟩
  have h2 := h.2
  by_cases q : nxI d u (oI c) < 0
  · rw [if_pos q, frc_e] at h2; exact Or.inl ⟨q, h2⟩
  · rw [if_neg q] at h2
    simp only [frc_e, Bool.and_eq_true] at h2
    exact Or.inr ⟨by omega, Nat.le_of_ble_eq_true h2.1.1, h2.1.2, h2.2⟩
theorem bl_or {a u : Nat} (h : (Nat.blt a u || Nat.beq a 6) = true) : a < u ∨ a = 6 := by
  rw [Bool.or_eq_true] at h
  exact h.imp (fun z => Nat.le_of_ble_eq_true z) (fun z => Nat.eq_of_beq_eq_true z)
theorem ds_or {d c a e : Nat} (h : dsN d c a e = true) : rdN d c a = 6 ∨ rdN d c a ≠ rdN d c e := by
  unfold dsN at h
  rw [Bool.or_eq_true] at h
  refine h.imp (fun z => Nat.eq_of_beq_eq_true z) (fun z w => ?_)
  rw [w, Nat.beq_refl] at z
  exact absurd z (by decide)
theorem rd_6 (d c k : Nat) : rdN d c k ≤ 6 ∧ (rdN d c k ≠ 6 → k < d ∧ rdN d c k = c / 7 ^ k % 7) := by
  unfold rdN
  by_cases q : k < d
  · rw [if_pos q]; exact ⟨by omega, fun _ => ⟨q, rfl⟩⟩
  · rw [if_neg q]; exact ⟨by omega, fun z => absurd rfl z⟩
theorem fu_1 {d u c : Nat} (h : fuN d u c = true) : (∀ j, j < 6 → rdN d c j < u ∨ rdN d c j = 6) ∧ (∀ i j, i < j → j < 6 → rdN d c i = rdN d c j → rdN d c i = 6) ∧ (if rdN d c 0 < 6 then 1 else 0) + (if rdN d c 1 < 6 then 1 else 0) + (if rdN d c 2 < 6 then 1 else 0) + (if rdN d c 3 < 6 then 1 else 0) + (if rdN d c 4 < 6 then 1 else 0) + (if rdN d c 5 < 6 then 1 else 0) = min d u := by
  unfold fuN at h
  simp only [Bool.and_eq_true] at h
  obtain ⟨⟨⟨⟨⟨⟨⟨⟨⟨⟨⟨⟨⟨⟨⟨⟨⟨⟨⟨⟨⟨a0, a1⟩, a2⟩, a3⟩, a4⟩, a5⟩, d01⟩, d02⟩, d03⟩, d04⟩, d05⟩, d12⟩, d13⟩, d14⟩, d15⟩, d23⟩, d24⟩, d25⟩, d34⟩, d35⟩, d45⟩, sm⟩ := h
  refine ⟨fun j hj => ?_, fun i j hi hj e => ?_, Nat.eq_of_beq_eq_true sm⟩
  · rcases (show j = 0 ∨ j = 1 ∨ j = 2 ∨ j = 3 ∨ j = 4 ∨ j = 5 by omega) with q | q | q | q | q | q <;> subst q
    · exact bl_or a0
    · exact bl_or a1
    · exact bl_or a2
    · exact bl_or a3
    · exact bl_or a4
    · exact bl_or a5
  · have go : ∀ a b, rdN d c a = rdN d c b → (rdN d c a = 6 ∨ rdN d c a ≠ rdN d c b) → rdN d c a = 6 := fun a b x y => y.resolve_right (fun z => z x)
    rcases (show (i = 0 ∧ j = 1) ∨ (i = 0 ∧ j = 2) ∨ (i = 0 ∧ j = 3) ∨ (i = 0 ∧ j = 4) ∨ (i = 0 ∧ j = 5) ∨ (i = 1 ∧ j = 2) ∨ (i = 1 ∧ j = 3) ∨ (i = 1 ∧ j = 4) ∨ (i = 1 ∧ j = 5) ∨ (i = 2 ∧ j = 3) ∨ (i = 2 ∧ j = 4) ∨ (i = 2 ∧ j = 5) ∨ (i = 3 ∧ j = 4) ∨ (i = 3 ∧ j = 5) ∨ (i = 4 ∧ j = 5) by omega) with ⟨p, q⟩ | ⟨p, q⟩ | ⟨p, q⟩ | ⟨p, q⟩ | ⟨p, q⟩ | ⟨p, q⟩ | ⟨p, q⟩ | ⟨p, q⟩ | ⟨p, q⟩ | ⟨p, q⟩ | ⟨p, q⟩ | ⟨p, q⟩ | ⟨p, q⟩ | ⟨p, q⟩ | ⟨p, q⟩ <;> subst p <;> subst q
    · exact go _ _ e (ds_or d01)
    · exact go _ _ e (ds_or d02)
    · exact go _ _ e (ds_or d03)
    · exact go _ _ e (ds_or d04)
    · exact go _ _ e (ds_or d05)
    · exact go _ _ e (ds_or d12)
    · exact go _ _ e (ds_or d13)
    · exact go _ _ e (ds_or d14)
    · exact go _ _ e (ds_or d15)
    · exact go _ _ e (ds_or d23)
    · exact go _ _ e (ds_or d24)
    · exact go _ _ e (ds_or d25)
    · exact go _ _ e (ds_or d34)
    · exact go _ _ e (ds_or d35)
    · exact go _ _ e (ds_or d45)
theorem rc_d {d c : Nat} {j : Nat} (hj : j < 6) : dN (rcN d c) j = rdN d c j := by
  have b0 := (rd_6 d c 0).1
  have b1 := (rd_6 d c 1).1
  have b2 := (rd_6 d c 2).1
  have b3 := (rd_6 d c 3).1
  have b4 := (rd_6 d c 4).1
  have b5 := (rd_6 d c 5).1
  unfold dN rcN
  rcases (show j = 0 ∨ j = 1 ∨ j = 2 ∨ j = 3 ∨ j = 4 ∨ j = 5 by omega) with q | q | q | q | q | q <;> subst q
  · show _ / 16807 % 7 = _; omega
  · show _ / 2401 % 7 = _; omega
  · show _ / 343 % 7 = _; omega
  · show _ / 49 % 7 = _; omega
  · show _ / 7 % 7 = _; omega
  · show _ / 1 % 7 = _; omega
theorem rc_b (d c : Nat) : rcN d c < 117649 := by
  have b0 := (rd_6 d c 0).1
  have b1 := (rd_6 d c 1).1
  have b2 := (rd_6 d c 2).1
  have b3 := (rd_6 d c 3).1
  have b4 := (rd_6 d c 4).1
  have b5 := (rd_6 d c 5).1
  unfold rcN; omega
theorem fu_K {g : Int → Int} (n : (0 ≤ nd g ∧ nd g ≤ 6) ∧ (0 ≤ nu g ∧ nu g ≤ 6)) {c : Nat} (h : fuN (nd g).toNat (nu g).toNat c = true) : fuK g ((rcN (nd g).toNat c : Nat) : Int) ∧ ∀ k : Int, 0 ≤ k → k < nd g → oI c k = dgZ ((rcN (nd g).toNat c : Nat) : Int) k := by
  obtain ⟨f1, f2, f3⟩ := fu_1 h
  have dg : ∀ k : Int, 0 ≤ k → k < 6 → dgZ ((rcN (nd g).toNat c : Nat) : Int) k = ((rdN (nd g).toNat c k.toNat : Nat) : Int) := fun k a e => by rw [dg_N a e, rc_d (by omega)]
  refine ⟨⟨fun k a e => ?_, ?_⟩, fun k a e => ?_⟩
  · rw [dg k a e]
    have r6 := rd_6 (nd g).toNat c k.toNat
    by_cases q : rdN (nd g).toNat c k.toNat = 6
    · left; omega
    · right
      have w := r6.2 q
      have v := f1 k.toNat (by omega)
      refine ⟨by omega, fun x x0 x1 y => ?_⟩
      rw [dg x x0 x1] at y
      rcases (show x = k ∨ x < k ∨ k < x by omega) with z | z | z
      · exact z
      · have := f2 x.toNat k.toNat (by omega) (by omega) (by omega); omega
      · have := f2 k.toNat x.toNat (by omega) (by omega) (by omega); omega
  · have e := in_N (rcN (nd g).toNat c) 6 (by omega)
    show _ ≤ sumZ (fun d => bZ (dgZ ((rcN (nd g).toNat c : Nat) : Int) d < 6)) 6
    have e6 : ctN (rcN (nd g).toNat c) 6 = 0 + (if dN (rcN (nd g).toNat c) 0 < 6 then 1 else 0) + (if dN (rcN (nd g).toNat c) 1 < 6 then 1 else 0) + (if dN (rcN (nd g).toNat c) 2 < 6 then 1 else 0) + (if dN (rcN (nd g).toNat c) 3 < 6 then 1 else 0) + (if dN (rcN (nd g).toNat c) 4 < 6 then 1 else 0) + (if dN (rcN (nd g).toNat c) 5 < 6 then 1 else 0) := rfl
    rw [e, e6, rc_d (by omega), rc_d (by omega), rc_d (by omega), rc_d (by omega), rc_d (by omega), rc_d (by omega)]
    omega
  · rw [dg k a (by omega)]
    unfold oI rdN
    rw [if_pos (by omega)]
/-- the orders gone through, i passes done: c the order, N the row's number; b: there is one more -/
def ckP (g : Int → Int) (i c N b : Int) : Prop := (b = 1 ∧ (0 ≤ c) ∧ N = ((rcN (nd g).toNat c.toNat : Nat) : Int) ∧ ckN (nd g).toNat (nu g).toNat (720 - i).toNat c.toNat = true) ∨ (b = 0 ∧ N = 117649)
theorem ck_i {d u n c : Nat} (h : ckN d u n c = true) : 0 < n := by
  cases n with
  | zero => exact absurd h (by simp [ckN])
  | succ n => omega
theorem ckP_b {g : Int → Int} {i c N b : Int} (h : ckP g i c N b) : (b = 0 ∨ b = 1) ∧ (0 ≤ N ∧ N ≤ 117649) ∧ (b = 0 → N = 117649) ∧ (b = 1 → 0 ≤ c ∧ i < 720 ∧ N < 117649) := by
  rcases h with ⟨h1, h2, h3, h4⟩ | h
  · have a := rc_b (nd g).toNat c.toNat
    have := ck_i h4
    omega
  · omega
theorem ckP_r {g : Int → Int} (n : (0 ≤ nd g ∧ nd g ≤ 6) ∧ (0 ≤ nu g ∧ nu g ≤ 6)) {i c N b : Int} (h : ckP g i c N b) (e : b = 1) : fuK g N ∧ ∀ k : Int, 0 ≤ k → k < nd g → oI c.toNat k = dgZ N k := by
  rcases h with ⟨h1, h2, h3, h4⟩ | h
  · have p := ck_i h4
    rw [show (720 - i).toNat = ((720 - i).toNat - 1) + 1 by omega] at h4
    rw [h3]
    exact fu_K n (ck_s h4).1
  · omega
theorem ckP_n {g : Int → Int} (n : (0 ≤ nd g ∧ nd g ≤ 6) ∧ (0 ≤ nu g ∧ nu g ≤ 6)) {i c N b v : Int} (h : ckP g i c N b) (e : b = 1) (x : nxV (nd g) (nu g) (oI c.toNat) v) : ∃ N', ckP g (i + 1) ((cO (nxF (nd g) (nu g) (oI c.toNat)) : Nat) : Int) N' v ∧ (N < N' ∧ N' ≤ 117649) ∧ ∀ k, N < k → k < N' → ¬ fuK g k := by
  rcases h with ⟨h1, h2, h3, h4⟩ | h
  · have p := ck_i h4
    rw [show (720 - i).toNat = ((720 - i).toNat - 1) + 1 by omega] at h4
    have s := (ck_s h4).2
    have ed : (((nd g).toNat : Nat) : Int) = nd g := by omega
    have eu : (((nu g).toNat : Nat) : Int) = nu g := by omega
    rw [ed, eu] at s
    have rb := rc_b (nd g).toNat c.toNat
    rcases s with s | s
    · rcases x with x | x
      · exact ⟨117649, Or.inr ⟨x.1, rfl⟩, by omega, by rw [h3]; exact gp_no n (Nat.le_refl _) s.2⟩
      · exfalso; omega
    · rcases x with x | x
      · exfalso; omega
      · have rb2 := rc_b (nd g).toNat (cO (nxF (nd g) (nu g) (oI c.toNat)))
        refine ⟨((rcN (nd g).toNat (cO (nxF (nd g) (nu g) (oI c.toNat))) : Nat) : Int), Or.inl ⟨x.1, by omega, ?_, ?_⟩, by omega, by rw [h3]; exact gp_no n (by omega) s.2.2.1⟩
        · rw [Int.toNat_natCast]
        · rw [Int.toNat_natCast, show (720 - (i + 1)).toNat = (720 - i).toNat - 1 by omega]; exact s.2.2.2
  · omega
theorem fuK_0 {g : Int → Int} : ¬ fuK g 0 := fun h => by
  have e : ∀ k : Int, dgZ 0 k = 0 := fun k => by unfold dgZ; simp
  rcases h.1 0 (by omega) (by omega) with q | q
  · rw [e] at q; omega
  · have := q.2 1 (by omega) (by omega) (by rw [e, e])
    omega
theorem ckP_0 {g : Int → Int} (n : (0 ≤ nd g ∧ nd g ≤ 6) ∧ (0 ≤ nu g ∧ nu g ≤ 6)) : ∃ N, ckP g 0 ((cO (bgF (nu g)) : Nat) : Int) N 1 ∧ ∀ k, 0 ≤ k → k < N → ¬ fuK g k := by
  have h := bg_n (d := (nd g).toNat) (u := (nu g).toNat) (by omega) (by omega)
  unfold bgN at h
  simp only [frc_e, Bool.and_eq_true] at h
  have eu : (((nu g).toNat : Nat) : Int) = nu g := by omega
  rw [eu] at h
  have rb := rc_b (nd g).toNat (cO (bgF (nu g)))
  refine ⟨_, Or.inl ⟨rfl, by omega, rfl, by rw [Int.toNat_natCast]; exact h.2⟩, fun k a c => ?_⟩
  rw [Int.toNat_natCast] at c
  by_cases z : k = 0
  · rw [z]; exact fuK_0
  · exact gp_no n (by omega) h.1 k (by omega) c
