/-! TEXT: contents -/
theorem dX1_add_0 : decode cX1_add 0 = .ok (.aload_n 0, 1) := by decide +kernel
theorem dX1_add_1 : decode cX1_add 1 = .ok (.getfield 21, 3) := by decide +kernel
theorem dX1_add_4 : decode cX1_add 4 = .ok (.bipush 8, 2) := by decide +kernel
theorem dX1_add_6 : decode cX1_add 6 = .ok (.if_icmp .lt 4, 3) := by decide +kernel
theorem dX1_add_9 : decode cX1_add 9 = .ok (.return_, 1) := by decide +kernel
theorem dX1_add_10 : decode cX1_add 10 = .ok (.aload_n 0, 1) := by decide +kernel
theorem dX1_add_11 : decode cX1_add 11 = .ok (.getfield 9, 3) := by decide +kernel
theorem dX1_add_14 : decode cX1_add 14 = .ok (.aload_n 0, 1) := by decide +kernel
theorem dX1_add_15 : decode cX1_add 15 = .ok (.getfield 21, 3) := by decide +kernel
theorem dX1_add_18 : decode cX1_add 18 = .ok (.iload_n 1, 1) := by decide +kernel
theorem dX1_add_19 : decode cX1_add 19 = .ok (.iastore, 1) := by decide +kernel
theorem dX1_add_20 : decode cX1_add 20 = .ok (.aload_n 0, 1) := by decide +kernel
theorem dX1_add_21 : decode cX1_add 21 = .ok (.getfield 15, 3) := by decide +kernel
theorem dX1_add_24 : decode cX1_add 24 = .ok (.aload_n 0, 1) := by decide +kernel
theorem dX1_add_25 : decode cX1_add 25 = .ok (.getfield 21, 3) := by decide +kernel
theorem dX1_add_28 : decode cX1_add 28 = .ok (.iload_n 2, 1) := by decide +kernel
theorem dX1_add_29 : decode cX1_add 29 = .ok (.iastore, 1) := by decide +kernel
theorem dX1_add_30 : decode cX1_add 30 = .ok (.aload_n 0, 1) := by decide +kernel
theorem dX1_add_31 : decode cX1_add 31 = .ok (.getfield 18, 3) := by decide +kernel
theorem dX1_add_34 : decode cX1_add 34 = .ok (.aload_n 0, 1) := by decide +kernel
theorem dX1_add_35 : decode cX1_add 35 = .ok (.getfield 21, 3) := by decide +kernel
theorem dX1_add_38 : decode cX1_add 38 = .ok (.iload_n 3, 1) := by decide +kernel
theorem dX1_add_39 : decode cX1_add 39 = .ok (.ifCond .eq 7, 3) := by decide +kernel
theorem dX1_add_42 : decode cX1_add 42 = .ok (.iconst 1, 1) := by decide +kernel
theorem dX1_add_43 : decode cX1_add 43 = .ok (.goto 4, 3) := by decide +kernel
theorem dX1_add_46 : decode cX1_add 46 = .ok (.iconst 0, 1) := by decide +kernel
theorem dX1_add_47 : decode cX1_add 47 = .ok (.iastore, 1) := by decide +kernel
theorem dX1_add_48 : decode cX1_add 48 = .ok (.aload_n 0, 1) := by decide +kernel
theorem dX1_add_49 : decode cX1_add 49 = .ok (.dup, 1) := by decide +kernel
theorem dX1_add_50 : decode cX1_add 50 = .ok (.getfield 21, 3) := by decide +kernel
theorem dX1_add_53 : decode cX1_add 53 = .ok (.iconst 1, 1) := by decide +kernel
theorem dX1_add_54 : decode cX1_add 54 = .ok (.iadd, 1) := by decide +kernel
theorem dX1_add_55 : decode cX1_add 55 = .ok (.putfield 21, 3) := by decide +kernel
theorem dX1_add_58 : decode cX1_add 58 = .ok (.return_, 1) := by decide +kernel
theorem dX2_addCloth_0 : decode cX2_addCloth 0 = .ok (.aload_n 0, 1) := by decide +kernel
theorem dX2_addCloth_1 : decode cX2_addCloth 1 = .ok (.getfield 31, 3) := by decide +kernel
theorem dX2_addCloth_4 : decode cX2_addCloth 4 = .ok (.bipush 6, 2) := by decide +kernel
theorem dX2_addCloth_6 : decode cX2_addCloth 6 = .ok (.if_icmp .lt 4, 3) := by decide +kernel
theorem dX2_addCloth_9 : decode cX2_addCloth 9 = .ok (.return_, 1) := by decide +kernel
theorem dX2_addCloth_10 : decode cX2_addCloth 10 = .ok (.aload_n 0, 1) := by decide +kernel
theorem dX2_addCloth_11 : decode cX2_addCloth 11 = .ok (.getfield 21, 3) := by decide +kernel
theorem dX2_addCloth_14 : decode cX2_addCloth 14 = .ok (.aload_n 0, 1) := by decide +kernel
theorem dX2_addCloth_15 : decode cX2_addCloth 15 = .ok (.getfield 31, 3) := by decide +kernel
theorem dX2_addCloth_18 : decode cX2_addCloth 18 = .ok (.iload_n 1, 1) := by decide +kernel
theorem dX2_addCloth_19 : decode cX2_addCloth 19 = .ok (.iastore, 1) := by decide +kernel
theorem dX2_addCloth_20 : decode cX2_addCloth 20 = .ok (.aload_n 0, 1) := by decide +kernel
theorem dX2_addCloth_21 : decode cX2_addCloth 21 = .ok (.getfield 25, 3) := by decide +kernel
theorem dX2_addCloth_24 : decode cX2_addCloth 24 = .ok (.aload_n 0, 1) := by decide +kernel
theorem dX2_addCloth_25 : decode cX2_addCloth 25 = .ok (.getfield 31, 3) := by decide +kernel
theorem dX2_addCloth_28 : decode cX2_addCloth 28 = .ok (.iload_n 2, 1) := by decide +kernel
theorem dX2_addCloth_29 : decode cX2_addCloth 29 = .ok (.iastore, 1) := by decide +kernel
theorem dX2_addCloth_30 : decode cX2_addCloth 30 = .ok (.aload_n 0, 1) := by decide +kernel
theorem dX2_addCloth_31 : decode cX2_addCloth 31 = .ok (.getfield 28, 3) := by decide +kernel
theorem dX2_addCloth_34 : decode cX2_addCloth 34 = .ok (.aload_n 0, 1) := by decide +kernel
theorem dX2_addCloth_35 : decode cX2_addCloth 35 = .ok (.getfield 31, 3) := by decide +kernel
theorem dX2_addCloth_38 : decode cX2_addCloth 38 = .ok (.iload_n 3, 1) := by decide +kernel
theorem dX2_addCloth_39 : decode cX2_addCloth 39 = .ok (.iastore, 1) := by decide +kernel
theorem dX2_addCloth_40 : decode cX2_addCloth 40 = .ok (.aload_n 0, 1) := by decide +kernel
theorem dX2_addCloth_41 : decode cX2_addCloth 41 = .ok (.dup, 1) := by decide +kernel
theorem dX2_addCloth_42 : decode cX2_addCloth 42 = .ok (.getfield 31, 3) := by decide +kernel
theorem dX2_addCloth_45 : decode cX2_addCloth 45 = .ok (.iconst 1, 1) := by decide +kernel
theorem dX2_addCloth_46 : decode cX2_addCloth 46 = .ok (.iadd, 1) := by decide +kernel
theorem dX2_addCloth_47 : decode cX2_addCloth 47 = .ok (.putfield 31, 3) := by decide +kernel
theorem dX2_addCloth_50 : decode cX2_addCloth 50 = .ok (.return_, 1) := by decide +kernel
theorem dX10_add_0 : decode cX10_add 0 = .ok (.aload_n 0, 1) := by decide +kernel
theorem dX10_add_1 : decode cX10_add 1 = .ok (.getfield 21, 3) := by decide +kernel
theorem dX10_add_4 : decode cX10_add 4 = .ok (.bipush 40, 2) := by decide +kernel
theorem dX10_add_6 : decode cX10_add 6 = .ok (.if_icmp .lt 4, 3) := by decide +kernel
theorem dX10_add_9 : decode cX10_add 9 = .ok (.return_, 1) := by decide +kernel
theorem dX10_add_10 : decode cX10_add 10 = .ok (.aload_n 0, 1) := by decide +kernel
theorem dX10_add_11 : decode cX10_add 11 = .ok (.getfield 9, 3) := by decide +kernel
theorem dX10_add_14 : decode cX10_add 14 = .ok (.aload_n 0, 1) := by decide +kernel
theorem dX10_add_15 : decode cX10_add 15 = .ok (.getfield 21, 3) := by decide +kernel
theorem dX10_add_18 : decode cX10_add 18 = .ok (.iload_n 1, 1) := by decide +kernel
theorem dX10_add_19 : decode cX10_add 19 = .ok (.iastore, 1) := by decide +kernel
theorem dX10_add_20 : decode cX10_add 20 = .ok (.aload_n 0, 1) := by decide +kernel
theorem dX10_add_21 : decode cX10_add 21 = .ok (.getfield 15, 3) := by decide +kernel
theorem dX10_add_24 : decode cX10_add 24 = .ok (.aload_n 0, 1) := by decide +kernel
theorem dX10_add_25 : decode cX10_add 25 = .ok (.getfield 21, 3) := by decide +kernel
theorem dX10_add_28 : decode cX10_add 28 = .ok (.iload_n 2, 1) := by decide +kernel
theorem dX10_add_29 : decode cX10_add 29 = .ok (.iastore, 1) := by decide +kernel
theorem dX10_add_30 : decode cX10_add 30 = .ok (.aload_n 0, 1) := by decide +kernel
theorem dX10_add_31 : decode cX10_add 31 = .ok (.getfield 18, 3) := by decide +kernel
theorem dX10_add_34 : decode cX10_add 34 = .ok (.aload_n 0, 1) := by decide +kernel
theorem dX10_add_35 : decode cX10_add 35 = .ok (.getfield 21, 3) := by decide +kernel
theorem dX10_add_38 : decode cX10_add 38 = .ok (.iload_n 3, 1) := by decide +kernel
theorem dX10_add_39 : decode cX10_add 39 = .ok (.iastore, 1) := by decide +kernel
theorem dX10_add_40 : decode cX10_add 40 = .ok (.aload_n 0, 1) := by decide +kernel
theorem dX10_add_41 : decode cX10_add 41 = .ok (.dup, 1) := by decide +kernel
theorem dX10_add_42 : decode cX10_add 42 = .ok (.getfield 21, 3) := by decide +kernel
theorem dX10_add_45 : decode cX10_add 45 = .ok (.iconst 1, 1) := by decide +kernel
theorem dX10_add_46 : decode cX10_add 46 = .ok (.iadd, 1) := by decide +kernel
theorem dX10_add_47 : decode cX10_add 47 = .ok (.putfield 21, 3) := by decide +kernel
theorem dX10_add_50 : decode cX10_add 50 = .ok (.return_, 1) := by decide +kernel
/-! TEXT: what a line tells; the contents -/
def acL (T : Int → Int) (L : Int) : List (Int × Int) → Int → Prop
  | [], p => tkK T L p = 2
  | _ :: bs, p => tkK T L p = 1 ∧ acL T L bs (tkE T L p)
def xpL (T : Int → Int) (L : Int) : List (Int × Int) → Int → Int
  | [], p => tkS T L p
  | _ :: bs, p => if tkK T L p = 1 then xpL T L bs (tkE T L p) else tkS T L p
def enL (T : Int → Int) (L : Int) : List (Int × Int) → Int → Int
  | [], p => tkE T L p
  | _ :: bs, p => enL T L bs (tkE T L p)
def ffL (T : Int → Int) (L : Int) : List (Int × Int) → Int → Int → Int
  | [], _, f => f
  | b :: bs, p, f => ffL T L bs (tkE T L p) (ntF (¬ (b.1 ≤ tkV T L p ∧ tkV T L p ≤ b.2)) 2 f)
def fqL (T : Int → Int) (L : Int) : List (Int × Int) → Int → Int → Int → Int
  | [], _, _, q => q
  | b :: bs, p, f, q => fqL T L bs (tkE T L p) (ntF (¬ (b.1 ≤ tkV T L p ∧ tkV T L p ≤ b.2)) 2 f) (ntQ (¬ (b.1 ≤ tkV T L p ∧ tkV T L p ≤ b.2)) (tkS T L p) f q)
theorem xp_y {T : Int → Int} {L p : Int} {b : Int × Int} {bs : List (Int × Int)} (h : tkK T L p = 1) : xpL T L (b :: bs) p = xpL T L bs (tkE T L p) := if_pos h
theorem xp_n {T : Int → Int} {L p : Int} {b : Int × Int} {bs : List (Int × Int)} (h : tkK T L p ≠ 1) : xpL T L (b :: bs) p = tkS T L p := if_neg h
theorem tn_1 {h : mH} {y : Nat} {T : Int → Int} {L p f q lo hi i v : Int} (H : tnP h y T L p f q lo hi i v) (z : v ≠ 0) : tkK T L p = 1 ∧ rdP h y T L (tkE T L p) ∧ rdF h y (ntF (¬ (lo ≤ tkV T L p ∧ tkV T L p ≤ hi)) 2 f) (ntQ (¬ (lo ≤ tkV T L p ∧ tkV T L p ≤ hi)) (tkS T L p) f q) ∧ rI h (y + 26) i = tkV T L p := by
  rcases H with w | w
  · exact w.2
  · exact absurd w.1 z
theorem tn_0 {h : mH} {y : Nat} {T : Int → Int} {L p f q lo hi i v : Int} (H : tnP h y T L p f q lo hi i v) (z : v = 0) : tkK T L p ≠ 1 ∧ rdF h y 1 (tkS T L p) := by
  rcases H with w | w
  · exact absurd w.1 (by omega)
  · exact w.2
/-- contents: blades, cloths, pairs; deeds and clues -/
def adG (G : Int → Int) (s a c e d : Int) : Int → Int := fun k => if G s < 6 then (if k = s then G s + 1 else if k = 30 * s + 3 + G s then a else if k = 30 * s + 9 + G s then c else if k = 30 * s + 15 + G s then e else if k = 30 * s + 21 + G s then d else G k) else G k
def clG (G : Int → Int) (a c e : Int) : Int → Int := fun k => if G 2 < 6 then (if k = 2 then G 2 + 1 else if k = 63 + G 2 then a else if k = 69 + G 2 then c else if k = 75 + G 2 then e else G k) else G k
def rivG (G : Int → Int) (a c : Int) : Int → Int := fun k => if 27 ≤ k ∧ k < 33 then (if k = 27 + a then c else if G k = c then -1 else G k) else if 57 ≤ k ∧ k < 63 then (if k = 57 + c then a else if G k = a then -1 else G k) else G k
def adY (mx : Int) (Y : Int → Int) (a c e : Int) : Int → Int := fun k => if Y 0 < mx then (if k = 0 then Y 0 + 1 else if k = 1 + 3 * Y 0 then a else if k = 2 + 3 * Y 0 then c else if k = 3 + 3 * Y 0 then e else Y k) else Y k
def syM (G : Int → Int) : Prop := (∀ d, 0 ≤ d → d < 6 → dm G d = -1 ∨ ((0 ≤ dm G d ∧ dm G d < 6) ∧ um G (dm G d) = d)) ∧ (∀ u, 0 ≤ u → u < 6 → um G u = -1 ∨ ((0 ≤ um G u ∧ um G u < 6) ∧ dm G (um G u) = u))
def wfR (G : Int → Int) : Prop := (0 ≤ nd G ∧ nd G ≤ 6) ∧ (0 ≤ nu G ∧ nu G ≤ 6) ∧ (0 ≤ nc G ∧ nc G ≤ 6) ∧ syM G
def rwF (h : mH) (f : Nat) (g : Int → Int) : Prop := (rI h (f + 1) 5 = nd g ∧ rI h (f + 7) 5 = nu g ∧ rI h f 5 = nc g) ∧ (∀ i : Int, 0 ≤ i → i < nd g → rI h (f + 2) i = dl g i ∧ rI h (f + 3) i = ds g i ∧ rI h (f + 4) i = de g i ∧ rI h (f + 5) i = dh g i) ∧ (∀ i : Int, 0 ≤ i → i < nu g → rI h (f + 8) i = ul g i ∧ rI h (f + 9) i = us g i ∧ rI h (f + 10) i = ue g i ∧ rI h (f + 11) i = uh g i) ∧ (∀ i : Int, 0 ≤ i → i < 6 → rI h (f + 6) i = dm g i ∧ rI h (f + 12) i = um g i) ∧ (∀ i : Int, 0 ≤ i → i < nc g → rI h (f + 13) i = ha g i ∧ rI h (f + 14) i = pr g i ∧ rI h (f + 15) i = dy g i)
theorem rwF_i {h : mH} {f : Nat} {g : Int → Int} (w : wfF g) (H : rwF h f g) : isF h f g := ⟨w, H⟩
theorem rwF_q {h h1 : mH} {f : Nat} {g : Int → Int} (e : ∀ a, f ≤ a → a < f + 16 → ∀ z, rI h1 a z = rI h a z) (H : rwF h f g) : rwF h1 f g := by
  obtain ⟨⟨a1, a2, a3⟩, b, c, d, k⟩ := H
  have e0 := e f (by omega) (by omega)
  have e1 := e (f + 1) (by omega) (by omega)
  have e2 := e (f + 2) (by omega) (by omega)
  have e3 := e (f + 3) (by omega) (by omega)
  have e4 := e (f + 4) (by omega) (by omega)
  have e5 := e (f + 5) (by omega) (by omega)
  have e6 := e (f + 6) (by omega) (by omega)
  have e7 := e (f + 7) (by omega) (by omega)
  have e8 := e (f + 8) (by omega) (by omega)
  have e9 := e (f + 9) (by omega) (by omega)
  have e10 := e (f + 10) (by omega) (by omega)
  have e11 := e (f + 11) (by omega) (by omega)
  have e12 := e (f + 12) (by omega) (by omega)
  have e13 := e (f + 13) (by omega) (by omega)
  have e14 := e (f + 14) (by omega) (by omega)
  have e15 := e (f + 15) (by omega) (by omega)
  refine ⟨⟨(e1 5).trans a1, (e7 5).trans a2, (e0 5).trans a3⟩, fun i x y => ?_, fun i x y => ?_, fun i x y => ?_, fun i x y => ?_⟩
  · obtain ⟨p, q, r, s⟩ := b i x y
    exact ⟨(e2 i).trans p, (e3 i).trans q, (e4 i).trans r, (e5 i).trans s⟩
  · obtain ⟨p, q, r, s⟩ := c i x y
    exact ⟨(e8 i).trans p, (e9 i).trans q, (e10 i).trans r, (e11 i).trans s⟩
  · obtain ⟨p, q⟩ := d i x y
    exact ⟨(e6 i).trans p, (e12 i).trans q⟩
  · obtain ⟨p, q, r⟩ := k i x y
    exact ⟨(e13 i).trans p, (e14 i).trans q, (e15 i).trans r⟩
theorem rwF_c {S : Nat → Nat → Prop} {h h1 : mH} {f : Nat} {g : Int → Int} (s : frm S h h1) (n : ∀ a k, f ≤ a → a < f + 16 → ¬ S a k) (H : rwF h f g) : rwF h1 f g := rwF_q (fun a x y z => frm_r s (n a z.toNat x y)) H
def rwY (h : mH) (f : Nat) (g : Int → Int) : Prop := rI h f 3 = g 0 ∧ ∀ k : Int, 0 ≤ k → k < g 0 → rI h (f + 1) k = g (1 + 3 * k) ∧ rI h (f + 2) k = g (2 + 3 * k) ∧ rI h (f + 3) k = g (3 + 3 * k)
theorem rwY_c {S : Nat → Nat → Prop} {h h1 : mH} {f : Nat} {g : Int → Int} (s : frm S h h1) (n : ∀ a k, f ≤ a → a < f + 4 → ¬ S a k) (H : rwY h f g) : rwY h1 f g := by
  have e : ∀ a, f ≤ a → a < f + 4 → ∀ z, rI h1 a z = rI h a z := fun a x y z => frm_r s (n a z.toNat x y)
  refine ⟨(e _ (by omega) (by omega) _).trans H.1, fun k x y => ?_⟩
  obtain ⟨p1, p2, p3⟩ := H.2 k x y
  exact ⟨(e _ (by omega) (by omega) _).trans p1, (e _ (by omega) (by omega) _).trans p2, (e _ (by omega) (by omega) _).trans p3⟩
theorem ag0_n {G : Int → Int} {a c e d : Int} (l : G 0 < 6) (l0 : 0 ≤ G 0) : nd (adG G 0 a c e d) = (if 0 = (0 : Int) then nd G + 1 else nd G) ∧ nu (adG G 0 a c e d) = (if 0 = (1 : Int) then nu G + 1 else nu G) ∧ nc (adG G 0 a c e d) = nc G := by
  refine ⟨?_, ?_, ?_⟩
  · show adG G 0 a c e d 0 = _; unfold adG; rw [if_pos l]; rw [if_pos rfl, if_pos rfl]; rfl
  · show adG G 0 a c e d 1 = _; unfold adG; rw [if_pos l]; rw [if_neg (by omega), if_neg (by omega), if_neg (by omega), if_neg (by omega), if_neg (by omega), if_neg (by omega)]; rfl
  · show adG G 0 a c e d 2 = _; unfold adG; rw [if_pos l]; rw [if_neg (by omega), if_neg (by omega), if_neg (by omega), if_neg (by omega), if_neg (by omega)]; rfl
theorem ag1_n {G : Int → Int} {a c e d : Int} (l : G 1 < 6) (l0 : 0 ≤ G 1) : nd (adG G 1 a c e d) = (if 1 = (0 : Int) then nd G + 1 else nd G) ∧ nu (adG G 1 a c e d) = (if 1 = (1 : Int) then nu G + 1 else nu G) ∧ nc (adG G 1 a c e d) = nc G := by
  refine ⟨?_, ?_, ?_⟩
  · show adG G 1 a c e d 0 = _; unfold adG; rw [if_pos l]; rw [if_neg (by omega), if_neg (by omega), if_neg (by omega), if_neg (by omega), if_neg (by omega), if_neg (by omega)]; rfl
  · show adG G 1 a c e d 1 = _; unfold adG; rw [if_pos l]; rw [if_pos rfl, if_pos rfl]; rfl
  · show adG G 1 a c e d 2 = _; unfold adG; rw [if_pos l]; rw [if_neg (by omega), if_neg (by omega), if_neg (by omega), if_neg (by omega), if_neg (by omega)]; rfl
theorem ag_o {G : Int → Int} {s a c e d k : Int} (l : G s < 6) (n : k ≠ s ∧ k ≠ 30 * s + 3 + G s ∧ k ≠ 30 * s + 9 + G s ∧ k ≠ 30 * s + 15 + G s ∧ k ≠ 30 * s + 21 + G s) : adG G s a c e d k = G k := by
  unfold adG
  rw [if_pos l, if_neg n.1, if_neg n.2.1, if_neg n.2.2.1, if_neg n.2.2.2.1, if_neg n.2.2.2.2]
theorem ag_4 {G : Int → Int} {s a c e d : Int} (l : G s < 6) (l0 : 0 ≤ G s) (s0 : 0 ≤ s ∧ s ≤ 1) : adG G s a c e d (30 * s + 3 + G s) = a ∧ adG G s a c e d (30 * s + 9 + G s) = c ∧ adG G s a c e d (30 * s + 15 + G s) = e ∧ adG G s a c e d (30 * s + 21 + G s) = d := by
  unfold adG
  refine ⟨?_, ?_, ?_, ?_⟩
  · rw [if_pos l, if_neg (by omega), if_pos rfl]
  · rw [if_pos l, if_neg (by omega), if_neg (by omega), if_pos rfl]
  · rw [if_pos l, if_neg (by omega), if_neg (by omega), if_neg (by omega), if_pos rfl]
  · rw [if_pos l, if_neg (by omega), if_neg (by omega), if_neg (by omega), if_neg (by omega), if_pos rfl]
theorem ag_f {G : Int → Int} {s a c e d : Int} (l : ¬ G s < 6) : adG G s a c e d = G := by
  funext k; unfold adG; rw [if_neg l]
theorem cg_f {G : Int → Int} {a c e : Int} (l : ¬ G 2 < 6) : clG G a c e = G := by
  funext k; unfold clG; rw [if_neg l]
theorem cg_o {G : Int → Int} {a c e k : Int} (l : G 2 < 6) (n : k ≠ 2 ∧ k ≠ 63 + G 2 ∧ k ≠ 69 + G 2 ∧ k ≠ 75 + G 2) : clG G a c e k = G k := by
  unfold clG
  rw [if_pos l, if_neg n.1, if_neg n.2.1, if_neg n.2.2.1, if_neg n.2.2.2]
theorem cg_3 {G : Int → Int} {a c e : Int} (l : G 2 < 6) (l0 : 0 ≤ G 2) : clG G a c e 2 = G 2 + 1 ∧ clG G a c e (63 + G 2) = a ∧ clG G a c e (69 + G 2) = c ∧ clG G a c e (75 + G 2) = e := by
  unfold clG
  refine ⟨?_, ?_, ?_, ?_⟩
  · rw [if_pos l, if_pos rfl]
  · rw [if_pos l, if_neg (by omega), if_pos rfl]
  · rw [if_pos l, if_neg (by omega), if_neg (by omega), if_pos rfl]
  · rw [if_pos l, if_neg (by omega), if_neg (by omega), if_neg (by omega), if_pos rfl]
theorem ay_f {mx : Int} {Y : Int → Int} {a c e : Int} (l : ¬ Y 0 < mx) : adY mx Y a c e = Y := by
  funext k; unfold adY; rw [if_neg l]
theorem ay_o {mx : Int} {Y : Int → Int} {a c e k : Int} (l : Y 0 < mx) (n : k ≠ 0 ∧ k ≠ 1 + 3 * Y 0 ∧ k ≠ 2 + 3 * Y 0 ∧ k ≠ 3 + 3 * Y 0) : adY mx Y a c e k = Y k := by
  unfold adY
  rw [if_pos l, if_neg n.1, if_neg n.2.1, if_neg n.2.2.1, if_neg n.2.2.2]
theorem ay_3 {mx : Int} {Y : Int → Int} {a c e : Int} (l : Y 0 < mx) (l0 : 0 ≤ Y 0) : adY mx Y a c e 0 = Y 0 + 1 ∧ adY mx Y a c e (1 + 3 * Y 0) = a ∧ adY mx Y a c e (2 + 3 * Y 0) = c ∧ adY mx Y a c e (3 + 3 * Y 0) = e := by
  unfold adY
  refine ⟨?_, ?_, ?_, ?_⟩
  · rw [if_pos l, if_pos rfl]
  · rw [if_pos l, if_neg (by omega), if_pos rfl]
  · rw [if_pos l, if_neg (by omega), if_neg (by omega), if_pos rfl]
  · rw [if_pos l, if_neg (by omega), if_neg (by omega), if_neg (by omega), if_pos rfl]
theorem riv_dm {G : Int → Int} {a c j : Int} (j0 : 0 ≤ j) (j1 : j < 6) : dm (rivG G a c) j = if j = a then c else if dm G j = c then -1 else dm G j := by
  show rivG G a c (27 + j) = _
  unfold rivG
  rw [if_pos (by omega)]
  by_cases q : j = a
  · rw [if_pos q, if_pos (by omega)]
  · rw [if_neg q, if_neg (by omega)]; rfl
theorem riv_um {G : Int → Int} {a c j : Int} (j0 : 0 ≤ j) (j1 : j < 6) : um (rivG G a c) j = if j = c then a else if um G j = a then -1 else um G j := by
  show rivG G a c (57 + j) = _
  unfold rivG
  rw [if_neg (by omega), if_pos (by omega)]
  by_cases q : j = c
  · rw [if_pos q, if_pos (by omega)]
  · rw [if_neg q, if_neg (by omega)]; rfl
theorem riv_o {G : Int → Int} {a c k : Int} (n : ¬ (27 ≤ k ∧ k < 33) ∧ ¬ (57 ≤ k ∧ k < 63)) : rivG G a c k = G k := by
  unfold rivG
  rw [if_neg n.1, if_neg n.2]
theorem riv_sy {G : Int → Int} {a c : Int} (a0 : 0 ≤ a ∧ a < 6) (c0 : 0 ≤ c ∧ c < 6) (s : syM G) : syM (rivG G a c) := by
  refine ⟨fun d d0 d1 => ?_, fun u u0 u1 => ?_⟩
  · rw [riv_dm d0 d1]
    by_cases q : d = a
    · rw [if_pos q]; exact Or.inr ⟨c0, by rw [riv_um c0.1 c0.2, if_pos rfl, q]⟩
    · rw [if_neg q]
      by_cases w : dm G d = c
      · rw [if_pos w]; exact Or.inl rfl
      · rw [if_neg w]
        rcases s.1 d d0 d1 with z | z
        · exact Or.inl z
        · refine Or.inr ⟨z.1, ?_⟩
          rw [riv_um z.1.1 z.1.2, if_neg w, if_neg (by omega)]; exact z.2
  · rw [riv_um u0 u1]
    by_cases q : u = c
    · rw [if_pos q]; exact Or.inr ⟨a0, by rw [riv_dm a0.1 a0.2, if_pos rfl, q]⟩
    · rw [if_neg q]
      by_cases w : um G u = a
      · rw [if_pos w]; exact Or.inl rfl
      · rw [if_neg w]
        rcases s.2 u u0 u1 with z | z
        · exact Or.inl z
        · refine Or.inr ⟨z.1, ?_⟩
          rw [riv_dm z.1.1 z.1.2, if_neg w, if_neg (by omega)]; exact z.2
set_option maxHeartbeats 400000 in
theorem zp_X0_add_g {ad : mA} {dd : Nat} {h : mH} {Q : mQ} {b : Nat}  (hk : blk h b) (n : Int) (l : Int) (l_r : -2147483648 ≤ l ∧ l < 2147483648) (s : Int) (s_r : -2147483648 ≤ s ∧ s < 2147483648) (e : Int) (e_r : -2147483648 ≤ e ∧ e < 2147483648) (d : Int) (d_r : -2147483648 ≤ d ∧ d < 2147483648) (p1 : rI h b 5 = n ∧ 0 ≤ n ∧ n ≤ 6) (kq : ∀ h1, frm (fun a k => (a = b ∧ k = 5) ∨ ((b + 1 ≤ a ∧ a ≤ b + 4) ∧ k = n.toNat)) h h1 → ((n < 6 → adB h1 b n l s e d) ∧ (¬ n < 6 → h1 = h)) → Q none h1) : mCal TB0 ad (dd + 1) M_X0_add [.ref b, .int (zI l), .int (zI s), .int (zI e), .int (zI d)] h 0 0 Q := by
  refine ⟨Nat.le_of_ble_eq_true rfl, ?_⟩
  show mEv TB0 ad M_X0_add (dd + 1) (0, 0) (mCal TB0 ad (dd + 0)) (fun v h' z => z.1 = 0 ∧ Q v h') 0 [some (.ref b), some (.int (zI l)), some (.int (zI s)), some (.int (zI e)), some (.int (zI d))] [] h (0, 0)
  have FR0 : frm (fun a k => (a = b ∧ k = 5) ∨ ((b + 1 ≤ a ∧ a ≤ b + 4) ∧ k = n.toNat)) h h := frm_0 h
  refine e_aload_n dX0_add_0 rfl ?_
  refine z_get n dX0_add_1 tf_0_27 (congrArg Prod.fst (bl_s0 hk)) (Or.inl rfl) p1.1 ?_
  refine z_bipush (6) dX0_add_4 rfl ?_
  refine z_icmp_lt 10 dX0_add_6 rfl ⟨by omega, by omega⟩ ⟨by omega, by omega⟩ (fun c1 => ?_) (fun c1 => ?_)
  · skip
    refine e_aload_n dX0_add_10 rfl ?_
    refine e_get (.ref (b + 1)) dX0_add_11 tf_0_9 (congrArg Prod.fst (bl_s0 hk)) (congrArg va_rf (bl_r0_0 hk)) ?_
    refine e_aload_n dX0_add_14 rfl ?_
    refine z_get n dX0_add_15 tf_0_27 (congrArg Prod.fst (bl_s0 hk)) (Or.inl rfl) p1.1 ?_
    refine e_iload_n dX0_add_18 rfl ?_
    refine z_ist dX0_add_19 (bl_s1 hk) (by decide) (by omega) (by omega) (fun h2 e3 => ?_)
    have f4 := frm_1 e3
    have k5 := lk_q (frm_s f4) hk
    have FR6 := frm_t FR0 (frm_m (S' := (fun a k => (a = b ∧ k = 5) ∨ ((b + 1 ≤ a ∧ a ≤ b + 4) ∧ k = n.toNat))) f4 (fun a k q => by omega))
    refine e_aload_n dX0_add_20 rfl ?_
    refine e_get (.ref (b + 2)) dX0_add_21 tf_0_15 (congrArg Prod.fst (bl_s0 k5)) (congrArg va_rf (bl_r0_1 k5)) ?_
    refine e_aload_n dX0_add_24 rfl ?_
    refine z_get n dX0_add_25 tf_0_27 (congrArg Prod.fst (bl_s0 k5)) (Or.inl rfl) (((frm_r f4 (by omega))).trans p1.1) ?_
    refine e_iload_n dX0_add_28 rfl ?_
    refine z_ist dX0_add_29 (bl_s2 k5) (by decide) (by omega) (by omega) (fun h7 e8 => ?_)
    have f9 := frm_1 e8
    have k10 := lk_q (frm_s f9) k5
    have FR11 := frm_t FR6 (frm_m (S' := (fun a k => (a = b ∧ k = 5) ∨ ((b + 1 ≤ a ∧ a ≤ b + 4) ∧ k = n.toNat))) f9 (fun a k q => by omega))
    refine e_aload_n dX0_add_30 rfl ?_
    refine e_get (.ref (b + 3)) dX0_add_31 tf_0_18 (congrArg Prod.fst (bl_s0 k10)) (congrArg va_rf (bl_r0_2 k10)) ?_
    refine e_aload_n dX0_add_34 rfl ?_
    refine z_get n dX0_add_35 tf_0_27 (congrArg Prod.fst (bl_s0 k10)) (Or.inl rfl) ((((frm_r f9 (by omega)).trans (frm_r f4 (by omega)))).trans p1.1) ?_
    refine e_iload_n dX0_add_38 rfl ?_
    refine z_ist dX0_add_39 (bl_s3 k10) (by decide) (by omega) (by omega) (fun h12 e13 => ?_)
    have f14 := frm_1 e13
    have k15 := lk_q (frm_s f14) k10
    have FR16 := frm_t FR11 (frm_m (S' := (fun a k => (a = b ∧ k = 5) ∨ ((b + 1 ≤ a ∧ a ≤ b + 4) ∧ k = n.toNat))) f14 (fun a k q => by omega))
    refine e_aload_n dX0_add_40 rfl ?_
    refine e_get (.ref (b + 4)) dX0_add_41 tf_0_21 (congrArg Prod.fst (bl_s0 k15)) (congrArg va_rf (bl_r0_3 k15)) ?_
    refine e_aload_n dX0_add_44 rfl ?_
    refine z_get n dX0_add_45 tf_0_27 (congrArg Prod.fst (bl_s0 k15)) (Or.inl rfl) ((((frm_r f14 (by omega)).trans ((frm_r f9 (by omega)).trans (frm_r f4 (by omega))))).trans p1.1) ?_
    refine e_iload dX0_add_48 rfl ?_
    refine z_ist dX0_add_50 (bl_s4 k15) (by decide) (by omega) (by omega) (fun h17 e18 => ?_)
    have f19 := frm_1 e18
    have k20 := lk_q (frm_s f19) k15
    have FR21 := frm_t FR16 (frm_m (S' := (fun a k => (a = b ∧ k = 5) ∨ ((b + 1 ≤ a ∧ a ≤ b + 4) ∧ k = n.toNat))) f19 (fun a k q => by omega))
    refine e_aload_n dX0_add_51 rfl ?_
    refine e_dup dX0_add_52 rfl ?_
    refine z_get n dX0_add_53 tf_0_27 (congrArg Prod.fst (bl_s0 k20)) (Or.inl rfl) ((((frm_r f19 (by omega)).trans ((frm_r f14 (by omega)).trans ((frm_r f9 (by omega)).trans (frm_r f4 (by omega)))))).trans p1.1) ?_
    refine z_iconst (1) dX0_add_56 rfl ?_
    refine z_iadd dX0_add_57 ?_
    refine z_put dX0_add_58 tf_0_27 (congrArg Prod.fst (bl_s0 k20)) rfl (Or.inl rfl) (fun h22 e23 => ?_)
    have f24 := frm_1 e23
    have k25 := lk_q (frm_s f24) k20
    have FR26 := frm_t FR21 (frm_m (S' := (fun a k => (a = b ∧ k = 5) ∨ ((b + 1 ≤ a ∧ a ≤ b + 4) ∧ k = n.toNat))) f24 (fun a k q => by omega))
    refine e_vret dX0_add_61 rfl ⟨rfl, ?_⟩
    exact kq _ FR26 ⟨fun _ => ⟨(rI_eq e23 ⟨by omega, by omega⟩), (((frm_r f24 (by omega)).trans ((frm_r f19 (by omega)).trans ((frm_r f14 (by omega)).trans (frm_r f9 (by omega))))).trans (rI_eq e3 ⟨by omega, by omega⟩)), (((frm_r f24 (by omega)).trans ((frm_r f19 (by omega)).trans (frm_r f14 (by omega)))).trans (rI_eq e8 ⟨by omega, by omega⟩)), (((frm_r f24 (by omega)).trans (frm_r f19 (by omega))).trans (rI_eq e13 ⟨by omega, by omega⟩)), ((frm_r f24 (by omega)).trans (rI_eq e18 ⟨by omega, by omega⟩))⟩, fun z => absurd (by omega) z⟩
  · skip
    refine e_vret dX0_add_9 rfl ⟨rfl, ?_⟩
    exact kq _ FR0 ⟨fun z => absurd z (by omega), fun _ => rfl⟩
def adC (h1 : mH) (f : Nat) (n l s e : Int) : Prop := rI h1 f 5 = n + 1 ∧ rI h1 (f + 13) n = l ∧ rI h1 (f + 14) n = s ∧ rI h1 (f + 15) n = e
def adD (h1 : mH) (f : Nat) (n l s e : Int) : Prop := rI h1 f 3 = n + 1 ∧ rI h1 (f + 1) n = l ∧ rI h1 (f + 2) n = s ∧ rI h1 (f + 3) n = e
set_option maxHeartbeats 400000 in
theorem zp_X2_addCloth {ad : mA} {dd : Nat} {h : mH} {Q : mQ} {f : Nat}  (hk : fgk h f) (n : Int) (l : Int) (l_r : -2147483648 ≤ l ∧ l < 2147483648) (s : Int) (s_r : -2147483648 ≤ s ∧ s < 2147483648) (e : Int) (e_r : -2147483648 ≤ e ∧ e < 2147483648) (p1 : rI h f 5 = n ∧ 0 ≤ n ∧ n ≤ 6) (kq : ∀ h1, frm (fun a k => (a = f ∧ k = 5) ∨ ((f + 13 ≤ a ∧ a ≤ f + 15) ∧ k = n.toNat)) h h1 → ((n < 6 → adC h1 f n l s e) ∧ (¬ n < 6 → h1 = h)) → Q none h1) : mCal TB0 ad (dd + 1) M_X2_addCloth [.ref f, .int (zI l), .int (zI s), .int (zI e)] h 0 0 Q := by
  refine ⟨Nat.le_of_ble_eq_true rfl, ?_⟩
  show mEv TB0 ad M_X2_addCloth (dd + 1) (0, 0) (mCal TB0 ad (dd + 0)) (fun v h' z => z.1 = 0 ∧ Q v h') 0 [some (.ref f), some (.int (zI l)), some (.int (zI s)), some (.int (zI e))] [] h (0, 0)
  have FR0 : frm (fun a k => (a = f ∧ k = 5) ∨ ((f + 13 ≤ a ∧ a ≤ f + 15) ∧ k = n.toNat)) h h := frm_0 h
  refine e_aload_n dX2_addCloth_0 rfl ?_
  refine z_get n dX2_addCloth_1 tf_2_31 (congrArg Prod.fst (fg_s0 hk)) (Or.inl rfl) p1.1 ?_
  refine z_bipush (6) dX2_addCloth_4 rfl ?_
  refine z_icmp_lt 10 dX2_addCloth_6 rfl ⟨by omega, by omega⟩ ⟨by omega, by omega⟩ (fun c1 => ?_) (fun c1 => ?_)
  · skip
    refine e_aload_n dX2_addCloth_10 rfl ?_
    refine e_get (.ref (f + 13)) dX2_addCloth_11 tf_2_21 (congrArg Prod.fst (fg_s0 hk)) (congrArg va_rf (fg_r0_2 hk)) ?_
    refine e_aload_n dX2_addCloth_14 rfl ?_
    refine z_get n dX2_addCloth_15 tf_2_31 (congrArg Prod.fst (fg_s0 hk)) (Or.inl rfl) p1.1 ?_
    refine e_iload_n dX2_addCloth_18 rfl ?_
    refine z_ist dX2_addCloth_19 (fg_s13 hk) (by decide) (by omega) (by omega) (fun h2 e3 => ?_)
    have f4 := frm_1 e3
    have k5 := lk_q (frm_s f4) hk
    have FR6 := frm_t FR0 (frm_m (S' := (fun a k => (a = f ∧ k = 5) ∨ ((f + 13 ≤ a ∧ a ≤ f + 15) ∧ k = n.toNat))) f4 (fun a k q => by omega))
    refine e_aload_n dX2_addCloth_20 rfl ?_
    refine e_get (.ref (f + 14)) dX2_addCloth_21 tf_2_25 (congrArg Prod.fst (fg_s0 k5)) (congrArg va_rf (fg_r0_3 k5)) ?_
    refine e_aload_n dX2_addCloth_24 rfl ?_
    refine z_get n dX2_addCloth_25 tf_2_31 (congrArg Prod.fst (fg_s0 k5)) (Or.inl rfl) (((frm_r f4 (by omega))).trans p1.1) ?_
    refine e_iload_n dX2_addCloth_28 rfl ?_
    refine z_ist dX2_addCloth_29 (fg_s14 k5) (by decide) (by omega) (by omega) (fun h7 e8 => ?_)
    have f9 := frm_1 e8
    have k10 := lk_q (frm_s f9) k5
    have FR11 := frm_t FR6 (frm_m (S' := (fun a k => (a = f ∧ k = 5) ∨ ((f + 13 ≤ a ∧ a ≤ f + 15) ∧ k = n.toNat))) f9 (fun a k q => by omega))
    refine e_aload_n dX2_addCloth_30 rfl ?_
    refine e_get (.ref (f + 15)) dX2_addCloth_31 tf_2_28 (congrArg Prod.fst (fg_s0 k10)) (congrArg va_rf (fg_r0_4 k10)) ?_
    refine e_aload_n dX2_addCloth_34 rfl ?_
    refine z_get n dX2_addCloth_35 tf_2_31 (congrArg Prod.fst (fg_s0 k10)) (Or.inl rfl) ((((frm_r f9 (by omega)).trans (frm_r f4 (by omega)))).trans p1.1) ?_
    refine e_iload_n dX2_addCloth_38 rfl ?_
    refine z_ist dX2_addCloth_39 (fg_s15 k10) (by decide) (by omega) (by omega) (fun h12 e13 => ?_)
    have f14 := frm_1 e13
    have k15 := lk_q (frm_s f14) k10
    have FR16 := frm_t FR11 (frm_m (S' := (fun a k => (a = f ∧ k = 5) ∨ ((f + 13 ≤ a ∧ a ≤ f + 15) ∧ k = n.toNat))) f14 (fun a k q => by omega))
    refine e_aload_n dX2_addCloth_40 rfl ?_
    refine e_dup dX2_addCloth_41 rfl ?_
    refine z_get n dX2_addCloth_42 tf_2_31 (congrArg Prod.fst (fg_s0 k15)) (Or.inl rfl) ((((frm_r f14 (by omega)).trans ((frm_r f9 (by omega)).trans (frm_r f4 (by omega))))).trans p1.1) ?_
    refine z_iconst (1) dX2_addCloth_45 rfl ?_
    refine z_iadd dX2_addCloth_46 ?_
    refine z_put dX2_addCloth_47 tf_2_31 (congrArg Prod.fst (fg_s0 k15)) rfl (Or.inl rfl) (fun h17 e18 => ?_)
    have f19 := frm_1 e18
    have k20 := lk_q (frm_s f19) k15
    have FR21 := frm_t FR16 (frm_m (S' := (fun a k => (a = f ∧ k = 5) ∨ ((f + 13 ≤ a ∧ a ≤ f + 15) ∧ k = n.toNat))) f19 (fun a k q => by omega))
    refine e_vret dX2_addCloth_50 rfl ⟨rfl, ?_⟩
    exact kq _ FR21 ⟨fun _ => ⟨(rI_eq e18 ⟨by omega, by omega⟩), (((frm_r f19 (by omega)).trans ((frm_r f14 (by omega)).trans (frm_r f9 (by omega)))).trans (rI_eq e3 ⟨by omega, by omega⟩)), (((frm_r f19 (by omega)).trans (frm_r f14 (by omega))).trans (rI_eq e8 ⟨by omega, by omega⟩)), ((frm_r f19 (by omega)).trans (rI_eq e13 ⟨by omega, by omega⟩))⟩, fun z => absurd (by omega) z⟩
  · skip
    refine e_vret dX2_addCloth_9 rfl ⟨rfl, ?_⟩
    exact kq _ FR0 ⟨fun z => absurd z (by omega), fun _ => rfl⟩
set_option maxHeartbeats 400000 in
theorem zp_X10_add {ad : mA} {dd : Nat} {h : mH} {Q : mQ} {f : Nat}  (hk : yrk h f) (n : Int) (l : Int) (l_r : -2147483648 ≤ l ∧ l < 2147483648) (s : Int) (s_r : -2147483648 ≤ s ∧ s < 2147483648) (e : Int) (e_r : -2147483648 ≤ e ∧ e < 2147483648) (p1 : rI h f 3 = n ∧ 0 ≤ n ∧ n ≤ 40) (kq : ∀ h1, frm (fun a k => (a = f ∧ k = 3) ∨ ((f + 1 ≤ a ∧ a ≤ f + 3) ∧ k = n.toNat)) h h1 → ((n < 40 → adD h1 f n l s e) ∧ (¬ n < 40 → h1 = h)) → Q none h1) : mCal TB0 ad (dd + 1) M_X10_add [.ref f, .int (zI l), .int (zI s), .int (zI e)] h 0 0 Q := by
  refine ⟨Nat.le_of_ble_eq_true rfl, ?_⟩
  show mEv TB0 ad M_X10_add (dd + 1) (0, 0) (mCal TB0 ad (dd + 0)) (fun v h' z => z.1 = 0 ∧ Q v h') 0 [some (.ref f), some (.int (zI l)), some (.int (zI s)), some (.int (zI e))] [] h (0, 0)
  have FR0 : frm (fun a k => (a = f ∧ k = 3) ∨ ((f + 1 ≤ a ∧ a ≤ f + 3) ∧ k = n.toNat)) h h := frm_0 h
  refine e_aload_n dX10_add_0 rfl ?_
  refine z_get n dX10_add_1 tf_10_21 (congrArg Prod.fst (yr_s0 hk)) (Or.inl rfl) p1.1 ?_
  refine z_bipush (40) dX10_add_4 rfl ?_
  refine z_icmp_lt 10 dX10_add_6 rfl ⟨by omega, by omega⟩ ⟨by omega, by omega⟩ (fun c1 => ?_) (fun c1 => ?_)
  · skip
    refine e_aload_n dX10_add_10 rfl ?_
    refine e_get (.ref (f + 1)) dX10_add_11 tf_10_9 (congrArg Prod.fst (yr_s0 hk)) (congrArg va_rf (yr_r0_0 hk)) ?_
    refine e_aload_n dX10_add_14 rfl ?_
    refine z_get n dX10_add_15 tf_10_21 (congrArg Prod.fst (yr_s0 hk)) (Or.inl rfl) p1.1 ?_
    refine e_iload_n dX10_add_18 rfl ?_
    refine z_ist dX10_add_19 (yr_s1 hk) (by decide) (by omega) (by omega) (fun h2 e3 => ?_)
    have f4 := frm_1 e3
    have k5 := lk_q (frm_s f4) hk
    have FR6 := frm_t FR0 (frm_m (S' := (fun a k => (a = f ∧ k = 3) ∨ ((f + 1 ≤ a ∧ a ≤ f + 3) ∧ k = n.toNat))) f4 (fun a k q => by omega))
    refine e_aload_n dX10_add_20 rfl ?_
    refine e_get (.ref (f + 2)) dX10_add_21 tf_10_15 (congrArg Prod.fst (yr_s0 k5)) (congrArg va_rf (yr_r0_1 k5)) ?_
    refine e_aload_n dX10_add_24 rfl ?_
    refine z_get n dX10_add_25 tf_10_21 (congrArg Prod.fst (yr_s0 k5)) (Or.inl rfl) (((frm_r f4 (by omega))).trans p1.1) ?_
    refine e_iload_n dX10_add_28 rfl ?_
    refine z_ist dX10_add_29 (yr_s2 k5) (by decide) (by omega) (by omega) (fun h7 e8 => ?_)
    have f9 := frm_1 e8
    have k10 := lk_q (frm_s f9) k5
    have FR11 := frm_t FR6 (frm_m (S' := (fun a k => (a = f ∧ k = 3) ∨ ((f + 1 ≤ a ∧ a ≤ f + 3) ∧ k = n.toNat))) f9 (fun a k q => by omega))
    refine e_aload_n dX10_add_30 rfl ?_
    refine e_get (.ref (f + 3)) dX10_add_31 tf_10_18 (congrArg Prod.fst (yr_s0 k10)) (congrArg va_rf (yr_r0_2 k10)) ?_
    refine e_aload_n dX10_add_34 rfl ?_
    refine z_get n dX10_add_35 tf_10_21 (congrArg Prod.fst (yr_s0 k10)) (Or.inl rfl) ((((frm_r f9 (by omega)).trans (frm_r f4 (by omega)))).trans p1.1) ?_
    refine e_iload_n dX10_add_38 rfl ?_
    refine z_ist dX10_add_39 (yr_s3 k10) (by decide) (by omega) (by omega) (fun h12 e13 => ?_)
    have f14 := frm_1 e13
    have k15 := lk_q (frm_s f14) k10
    have FR16 := frm_t FR11 (frm_m (S' := (fun a k => (a = f ∧ k = 3) ∨ ((f + 1 ≤ a ∧ a ≤ f + 3) ∧ k = n.toNat))) f14 (fun a k q => by omega))
    refine e_aload_n dX10_add_40 rfl ?_
    refine e_dup dX10_add_41 rfl ?_
    refine z_get n dX10_add_42 tf_10_21 (congrArg Prod.fst (yr_s0 k15)) (Or.inl rfl) ((((frm_r f14 (by omega)).trans ((frm_r f9 (by omega)).trans (frm_r f4 (by omega))))).trans p1.1) ?_
    refine z_iconst (1) dX10_add_45 rfl ?_
    refine z_iadd dX10_add_46 ?_
    refine z_put dX10_add_47 tf_10_21 (congrArg Prod.fst (yr_s0 k15)) rfl (Or.inl rfl) (fun h17 e18 => ?_)
    have f19 := frm_1 e18
    have k20 := lk_q (frm_s f19) k15
    have FR21 := frm_t FR16 (frm_m (S' := (fun a k => (a = f ∧ k = 3) ∨ ((f + 1 ≤ a ∧ a ≤ f + 3) ∧ k = n.toNat))) f19 (fun a k q => by omega))
    refine e_vret dX10_add_50 rfl ⟨rfl, ?_⟩
    exact kq _ FR21 ⟨fun _ => ⟨(rI_eq e18 ⟨by omega, by omega⟩), (((frm_r f19 (by omega)).trans ((frm_r f14 (by omega)).trans (frm_r f9 (by omega)))).trans (rI_eq e3 ⟨by omega, by omega⟩)), (((frm_r f19 (by omega)).trans (frm_r f14 (by omega))).trans (rI_eq e8 ⟨by omega, by omega⟩)), ((frm_r f19 (by omega)).trans (rI_eq e13 ⟨by omega, by omega⟩))⟩, fun z => absurd (by omega) z⟩
  · skip
    refine e_vret dX10_add_9 rfl ⟨rfl, ?_⟩
    exact kq _ FR0 ⟨fun z => absurd z (by omega), fun _ => rfl⟩
set_option maxHeartbeats 400000 in
theorem zp_X1_add {ad : mA} {dd : Nat} {h : mH} {Q : mQ} {f : Nat}  (hk : cuk h f) (n : Int) (l : Int) (l_r : -2147483648 ≤ l ∧ l < 2147483648) (s : Int) (s_r : -2147483648 ≤ s ∧ s < 2147483648) (t : Prop) [Decidable t] (p1 : rI h f 3 = n ∧ 0 ≤ n ∧ n ≤ 8) (kq : ∀ h1, frm (fun a k => (a = f ∧ k = 3) ∨ ((f + 1 ≤ a ∧ a ≤ f + 3) ∧ k = n.toNat)) h h1 → ((n < 8 → adD h1 f n l s (bZ t)) ∧ (¬ n < 8 → h1 = h)) → Q none h1) : mCal TB0 ad (dd + 1) M_X1_add [.ref f, .int (zI l), .int (zI s), .int (zI (bZ t))] h 0 0 Q := by
  refine ⟨Nat.le_of_ble_eq_true rfl, ?_⟩
  show mEv TB0 ad M_X1_add (dd + 1) (0, 0) (mCal TB0 ad (dd + 0)) (fun v h' z => z.1 = 0 ∧ Q v h') 0 [some (.ref f), some (.int (zI l)), some (.int (zI s)), some (.int (zI (bZ t)))] [] h (0, 0)
  have FR0 : frm (fun a k => (a = f ∧ k = 3) ∨ ((f + 1 ≤ a ∧ a ≤ f + 3) ∧ k = n.toNat)) h h := frm_0 h
  refine e_aload_n dX1_add_0 rfl ?_
  refine z_get n dX1_add_1 tf_1_21 (congrArg Prod.fst (cu_s0 hk)) (Or.inl rfl) p1.1 ?_
  refine z_bipush (8) dX1_add_4 rfl ?_
  refine z_icmp_lt 10 dX1_add_6 rfl ⟨by omega, by omega⟩ ⟨by omega, by omega⟩ (fun c1 => ?_) (fun c1 => ?_)
  · skip
    refine e_aload_n dX1_add_10 rfl ?_
    refine e_get (.ref (f + 1)) dX1_add_11 tf_1_9 (congrArg Prod.fst (cu_s0 hk)) (congrArg va_rf (cu_r0_0 hk)) ?_
    refine e_aload_n dX1_add_14 rfl ?_
    refine z_get n dX1_add_15 tf_1_21 (congrArg Prod.fst (cu_s0 hk)) (Or.inl rfl) p1.1 ?_
    refine e_iload_n dX1_add_18 rfl ?_
    refine z_ist dX1_add_19 (cu_s1 hk) (by decide) (by omega) (by omega) (fun h2 e3 => ?_)
    have f4 := frm_1 e3
    have k5 := lk_q (frm_s f4) hk
    have FR6 := frm_t FR0 (frm_m (S' := (fun a k => (a = f ∧ k = 3) ∨ ((f + 1 ≤ a ∧ a ≤ f + 3) ∧ k = n.toNat))) f4 (fun a k q => by omega))
    refine e_aload_n dX1_add_20 rfl ?_
    refine e_get (.ref (f + 2)) dX1_add_21 tf_1_15 (congrArg Prod.fst (cu_s0 k5)) (congrArg va_rf (cu_r0_1 k5)) ?_
    refine e_aload_n dX1_add_24 rfl ?_
    refine z_get n dX1_add_25 tf_1_21 (congrArg Prod.fst (cu_s0 k5)) (Or.inl rfl) (((frm_r f4 (by omega))).trans p1.1) ?_
    refine e_iload_n dX1_add_28 rfl ?_
    refine z_ist dX1_add_29 (cu_s2 k5) (by decide) (by omega) (by omega) (fun h7 e8 => ?_)
    have f9 := frm_1 e8
    have k10 := lk_q (frm_s f9) k5
    have FR11 := frm_t FR6 (frm_m (S' := (fun a k => (a = f ∧ k = 3) ∨ ((f + 1 ≤ a ∧ a ≤ f + 3) ∧ k = n.toNat))) f9 (fun a k q => by omega))
    refine e_aload_n dX1_add_30 rfl ?_
    refine e_get (.ref (f + 3)) dX1_add_31 tf_1_18 (congrArg Prod.fst (cu_s0 k10)) (congrArg va_rf (cu_r0_2 k10)) ?_
    refine e_aload_n dX1_add_34 rfl ?_
    refine z_get n dX1_add_35 tf_1_21 (congrArg Prod.fst (cu_s0 k10)) (Or.inl rfl) ((((frm_r f9 (by omega)).trans (frm_r f4 (by omega)))).trans p1.1) ?_
    refine e_iload_n dX1_add_38 rfl ?_
    refine z_ifb_eq 46 dX1_add_39 rfl (fun c12 => ?_) (fun c12 => ?_)
    · skip
      refine z_iconst (0) dX1_add_46 rfl ?_
      refine z_ist dX1_add_47 (cu_s3 k10) (by decide) (by omega) (by omega) (fun h13 e14 => ?_)
      have f15 := frm_1 e14
      have k16 := lk_q (frm_s f15) k10
      have FR17 := frm_t FR11 (frm_m (S' := (fun a k => (a = f ∧ k = 3) ∨ ((f + 1 ≤ a ∧ a ≤ f + 3) ∧ k = n.toNat))) f15 (fun a k q => by omega))
      refine e_aload_n dX1_add_48 rfl ?_
      refine e_dup dX1_add_49 rfl ?_
      refine z_get n dX1_add_50 tf_1_21 (congrArg Prod.fst (cu_s0 k16)) (Or.inl rfl) ((((frm_r f15 (by omega)).trans ((frm_r f9 (by omega)).trans (frm_r f4 (by omega))))).trans p1.1) ?_
      refine z_iconst (1) dX1_add_53 rfl ?_
      refine z_iadd dX1_add_54 ?_
      refine z_put dX1_add_55 tf_1_21 (congrArg Prod.fst (cu_s0 k16)) rfl (Or.inl rfl) (fun h18 e19 => ?_)
      have f20 := frm_1 e19
      have k21 := lk_q (frm_s f20) k16
      have FR22 := frm_t FR17 (frm_m (S' := (fun a k => (a = f ∧ k = 3) ∨ ((f + 1 ≤ a ∧ a ≤ f + 3) ∧ k = n.toNat))) f20 (fun a k q => by omega))
      refine e_vret dX1_add_58 rfl ⟨rfl, ?_⟩
      exact kq _ FR22 ⟨fun _ => ⟨(rI_eq e19 ⟨by omega, by omega⟩), (((frm_r f20 (by omega)).trans ((frm_r f15 (by omega)).trans (frm_r f9 (by omega)))).trans (rI_eq e3 ⟨by omega, by omega⟩)), (((frm_r f20 (by omega)).trans (frm_r f15 (by omega))).trans (rI_eq e8 ⟨by omega, by omega⟩)), by first | (rw [bZ_1 (by assumption)]; exact ((frm_r f20 (by omega)).trans (rI_eq e14 ⟨by omega, by omega⟩))) | (rw [bZ_0 (by assumption)]; exact ((frm_r f20 (by omega)).trans (rI_eq e14 ⟨by omega, by omega⟩)))⟩, fun z => absurd (by omega) z⟩
    · skip
      refine z_iconst (1) dX1_add_42 rfl ?_
      refine e_goto 47 dX1_add_43 rfl ?_
      refine z_ist dX1_add_47 (cu_s3 k10) (by decide) (by omega) (by omega) (fun h23 e24 => ?_)
      have f25 := frm_1 e24
      have k26 := lk_q (frm_s f25) k10
      have FR27 := frm_t FR11 (frm_m (S' := (fun a k => (a = f ∧ k = 3) ∨ ((f + 1 ≤ a ∧ a ≤ f + 3) ∧ k = n.toNat))) f25 (fun a k q => by omega))
      refine e_aload_n dX1_add_48 rfl ?_
      refine e_dup dX1_add_49 rfl ?_
      refine z_get n dX1_add_50 tf_1_21 (congrArg Prod.fst (cu_s0 k26)) (Or.inl rfl) ((((frm_r f25 (by omega)).trans ((frm_r f9 (by omega)).trans (frm_r f4 (by omega))))).trans p1.1) ?_
      refine z_iconst (1) dX1_add_53 rfl ?_
      refine z_iadd dX1_add_54 ?_
      refine z_put dX1_add_55 tf_1_21 (congrArg Prod.fst (cu_s0 k26)) rfl (Or.inl rfl) (fun h28 e29 => ?_)
      have f30 := frm_1 e29
      have k31 := lk_q (frm_s f30) k26
      have FR32 := frm_t FR27 (frm_m (S' := (fun a k => (a = f ∧ k = 3) ∨ ((f + 1 ≤ a ∧ a ≤ f + 3) ∧ k = n.toNat))) f30 (fun a k q => by omega))
      refine e_vret dX1_add_58 rfl ⟨rfl, ?_⟩
      exact kq _ FR32 ⟨fun _ => ⟨(rI_eq e29 ⟨by omega, by omega⟩), (((frm_r f30 (by omega)).trans ((frm_r f25 (by omega)).trans (frm_r f9 (by omega)))).trans (rI_eq e3 ⟨by omega, by omega⟩)), (((frm_r f30 (by omega)).trans (frm_r f25 (by omega))).trans (rI_eq e8 ⟨by omega, by omega⟩)), by first | (rw [bZ_1 (by assumption)]; exact ((frm_r f30 (by omega)).trans (rI_eq e24 ⟨by omega, by omega⟩))) | (rw [bZ_0 (by assumption)]; exact ((frm_r f30 (by omega)).trans (rI_eq e24 ⟨by omega, by omega⟩)))⟩, fun z => absurd (by omega) z⟩
  · skip
    refine e_vret dX1_add_9 rfl ⟨rfl, ?_⟩
    exact kq _ FR0 ⟨fun z => absurd z (by omega), fun _ => rfl⟩
