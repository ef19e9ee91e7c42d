/-! TEXT: a text without a fault tells what may stand -/
/-! TEXT: a text without a fault tells what may stand -/
def bndF (g : Int → Int) : Prop := (∀ d, 0 ≤ d → d < nd g → (1 ≤ dl g d ∧ dl g d ≤ 20) ∧ (0 ≤ ds g d ∧ ds g d ≤ 3) ∧ (0 ≤ de g d ∧ de g d ≤ 20) ∧ (0 ≤ dh g d ∧ dh g d ≤ 1)) ∧ (∀ u, 0 ≤ u → u < nu g → (1 ≤ ul g u ∧ ul g u ≤ 20) ∧ (0 ≤ us g u ∧ us g u ≤ 3) ∧ (0 ≤ ue g u ∧ ue g u ≤ 20) ∧ (0 ≤ uh g u ∧ uh g u ≤ 1)) ∧ (∀ c, 0 ≤ c → c < nc g → (1 ≤ ha g c ∧ ha g c ≤ 70) ∧ (0 ≤ pr g c ∧ pr g c ≤ 20) ∧ (0 ≤ dy g c ∧ dy g c ≤ 9))
def mtF (g : Int → Int) (x y : Int) : Prop := ∀ j, 0 ≤ j → j < 6 → dm g j = -1 ∨ (j ≤ x ∧ dm g j ≤ y)
theorem bnd_a0 {G : Int → Int} {l s e d : Int} (w : wfR G) (q : G 0 < 6) (v : (1 ≤ l ∧ l ≤ 20) ∧ (0 ≤ s ∧ s ≤ 3) ∧ (0 ≤ e ∧ e ≤ 20) ∧ (0 ≤ d ∧ d ≤ 1)) (b : bndF G) : bndF (adG G 0 l s e d) := by
  have en : nd G = G 0 := rfl
  have eu : nu G = G 1 := rfl
  have ec : nc G = G 2 := rfl
  have w1 := w.1
  have w2 := w.2.1
  have w3 := w.2.2.1
  obtain ⟨n1, n2, n3⟩ := ag0_n (G := G) (a := l) (c := s) (e := e) (d := d) q (by omega)
  obtain ⟨v1, v2, v3, v4⟩ := ag_4 (G := G) (s := 0) (a := l) (c := s) (e := e) (d := d) q (by omega) (by omega)
  rw [if_pos rfl] at n1
  rw [if_neg (by omega)] at n2
  refine ⟨fun i x y => ?_, fun i x y => ?_, fun i x y => ?_⟩
  · rw [n1] at y
    by_cases u : i = nd G
    · rw [u]
      rw [show dl (adG G 0 l s e d) (nd G) = l by show adG G 0 l s e d (3 + nd G) = _; rw [show 3 + nd G = 30 * 0 + 3 + G 0 by omega]; exact v1]
      rw [show ds (adG G 0 l s e d) (nd G) = s by show adG G 0 l s e d (9 + nd G) = _; rw [show 9 + nd G = 30 * 0 + 9 + G 0 by omega]; exact v2]
      rw [show de (adG G 0 l s e d) (nd G) = e by show adG G 0 l s e d (15 + nd G) = _; rw [show 15 + nd G = 30 * 0 + 15 + G 0 by omega]; exact v3]
      rw [show dh (adG G 0 l s e d) (nd G) = d by show adG G 0 l s e d (21 + nd G) = _; rw [show 21 + nd G = 30 * 0 + 21 + G 0 by omega]; exact v4]
      exact v
    · rw [(show dl (adG G 0 l s e d) i = dl G i from ag_o q (by omega)), (show ds (adG G 0 l s e d) i = ds G i from ag_o q (by omega)), (show de (adG G 0 l s e d) i = de G i from ag_o q (by omega)), (show dh (adG G 0 l s e d) i = dh G i from ag_o q (by omega))]
      exact b.1 i x (by omega)
  · rw [n2] at y
    rw [(show ul (adG G 0 l s e d) i = ul G i from ag_o q (by omega)), (show us (adG G 0 l s e d) i = us G i from ag_o q (by omega)), (show ue (adG G 0 l s e d) i = ue G i from ag_o q (by omega)), (show uh (adG G 0 l s e d) i = uh G i from ag_o q (by omega))]
    exact b.2.1 i x y
  · rw [n3] at y
    rw [(show ha (adG G 0 l s e d) i = ha G i from ag_o q (by omega)), (show pr (adG G 0 l s e d) i = pr G i from ag_o q (by omega)), (show dy (adG G 0 l s e d) i = dy G i from ag_o q (by omega))]
    exact b.2.2 i x y
theorem mt_a0 {G : Int → Int} {l s e d x y : Int} (w : wfR G) (q : G 0 < 6) (h : mtF G x y) : mtF (adG G 0 l s e d) x y := fun j a z => by
  have en : nd G = G 0 := rfl
  have eu : nu G = G 1 := rfl
  have w1 := w.1
  have w2 := w.2.1
  rw [show dm (adG G 0 l s e d) j = dm G j from ag_o q (by omega)]
  exact h j a z
theorem bnd_a1 {G : Int → Int} {l s e d : Int} (w : wfR G) (q : G 1 < 6) (v : (1 ≤ l ∧ l ≤ 20) ∧ (0 ≤ s ∧ s ≤ 3) ∧ (0 ≤ e ∧ e ≤ 20) ∧ (0 ≤ d ∧ d ≤ 1)) (b : bndF G) : bndF (adG G 1 l s e d) := by
  have en : nd G = G 0 := rfl
  have eu : nu G = G 1 := rfl
  have ec : nc G = G 2 := rfl
  have w1 := w.1
  have w2 := w.2.1
  have w3 := w.2.2.1
  obtain ⟨n1, n2, n3⟩ := ag1_n (G := G) (a := l) (c := s) (e := e) (d := d) q (by omega)
  obtain ⟨v1, v2, v3, v4⟩ := ag_4 (G := G) (s := 1) (a := l) (c := s) (e := e) (d := d) q (by omega) (by omega)
  rw [if_neg (by omega)] at n1
  rw [if_pos rfl] at n2
  refine ⟨fun i x y => ?_, fun i x y => ?_, fun i x y => ?_⟩
  · rw [n1] at y
    rw [(show dl (adG G 1 l s e d) i = dl G i from ag_o q (by omega)), (show ds (adG G 1 l s e d) i = ds G i from ag_o q (by omega)), (show de (adG G 1 l s e d) i = de G i from ag_o q (by omega)), (show dh (adG G 1 l s e d) i = dh G i from ag_o q (by omega))]
    exact b.1 i x y
  · rw [n2] at y
    by_cases u : i = nu G
    · rw [u]
      rw [show ul (adG G 1 l s e d) (nu G) = l by show adG G 1 l s e d (33 + nu G) = _; rw [show 33 + nu G = 30 * 1 + 3 + G 1 by omega]; exact v1]
      rw [show us (adG G 1 l s e d) (nu G) = s by show adG G 1 l s e d (39 + nu G) = _; rw [show 39 + nu G = 30 * 1 + 9 + G 1 by omega]; exact v2]
      rw [show ue (adG G 1 l s e d) (nu G) = e by show adG G 1 l s e d (45 + nu G) = _; rw [show 45 + nu G = 30 * 1 + 15 + G 1 by omega]; exact v3]
      rw [show uh (adG G 1 l s e d) (nu G) = d by show adG G 1 l s e d (51 + nu G) = _; rw [show 51 + nu G = 30 * 1 + 21 + G 1 by omega]; exact v4]
      exact v
    · rw [(show ul (adG G 1 l s e d) i = ul G i from ag_o q (by omega)), (show us (adG G 1 l s e d) i = us G i from ag_o q (by omega)), (show ue (adG G 1 l s e d) i = ue G i from ag_o q (by omega)), (show uh (adG G 1 l s e d) i = uh G i from ag_o q (by omega))]
      exact b.2.1 i x (by omega)
  · rw [n3] at y
    rw [(show ha (adG G 1 l s e d) i = ha G i from ag_o q (by omega)), (show pr (adG G 1 l s e d) i = pr G i from ag_o q (by omega)), (show dy (adG G 1 l s e d) i = dy G i from ag_o q (by omega))]
    exact b.2.2 i x y
theorem mt_a1 {G : Int → Int} {l s e d x y : Int} (w : wfR G) (q : G 1 < 6) (h : mtF G x y) : mtF (adG G 1 l s e d) x y := fun j a z => by
  have en : nd G = G 0 := rfl
  have eu : nu G = G 1 := rfl
  have w1 := w.1
  have w2 := w.2.1
  rw [show dm (adG G 1 l s e d) j = dm G j from ag_o q (by omega)]
  exact h j a z
theorem bnd_cl {G : Int → Int} {l s e : Int} (w : wfR G) (q : G 2 < 6) (v : (1 ≤ l ∧ l ≤ 70) ∧ (0 ≤ s ∧ s ≤ 20) ∧ (0 ≤ e ∧ e ≤ 9)) (b : bndF G) : bndF (clG G l s e) := by
  have en : nd G = G 0 := rfl
  have eu : nu G = G 1 := rfl
  have ec : nc G = G 2 := rfl
  have w1 := w.1
  have w2 := w.2.1
  have w3 := w.2.2.1
  have n1 : nd (clG G l s e) = nd G := cg_o q (by omega)
  have n2 : nu (clG G l s e) = nu G := cg_o q (by omega)
  obtain ⟨n3, v1, v2, v3⟩ := cg_3 (G := G) (a := l) (c := s) (e := e) q (by omega)
  have n3 : nc (clG G l s e) = nc G + 1 := n3
  refine ⟨fun i x y => ?_, fun i x y => ?_, fun i x y => ?_⟩
  · rw [n1] at y
    rw [(show dl (clG G l s e) i = dl G i from cg_o q (by omega)), (show ds (clG G l s e) i = ds G i from cg_o q (by omega)), (show de (clG G l s e) i = de G i from cg_o q (by omega)), (show dh (clG G l s e) i = dh G i from cg_o q (by omega))]
    exact b.1 i x y
  · rw [n2] at y
    rw [(show ul (clG G l s e) i = ul G i from cg_o q (by omega)), (show us (clG G l s e) i = us G i from cg_o q (by omega)), (show ue (clG G l s e) i = ue G i from cg_o q (by omega)), (show uh (clG G l s e) i = uh G i from cg_o q (by omega))]
    exact b.2.1 i x y
  · rw [n3] at y
    by_cases u : i = nc G
    · rw [u, show ha (clG G l s e) (nc G) = l from v1, show pr (clG G l s e) (nc G) = s from v2, show dy (clG G l s e) (nc G) = e from v3]
      exact v
    · rw [(show ha (clG G l s e) i = ha G i from cg_o q (by omega)), (show pr (clG G l s e) i = pr G i from cg_o q (by omega)), (show dy (clG G l s e) i = dy G i from cg_o q (by omega))]
      exact b.2.2 i x (by omega)
theorem mt_cl {G : Int → Int} {l s e x y : Int} (w : wfR G) (q : G 2 < 6) (h : mtF G x y) : mtF (clG G l s e) x y := fun j a z => by
  have ec : nc G = G 2 := rfl
  have w3 := w.2.2.1
  rw [show dm (clG G l s e) j = dm G j from cg_o q (by omega)]
  exact h j a z
theorem bnd_rv {G : Int → Int} {a c : Int} (w : wfR G) (b : bndF G) : bndF (rivG G a c) := by
  have w1 := w.1
  have w2 := w.2.1
  have w3 := w.2.2.1
  have n1 : nd (rivG G a c) = nd G := riv_o (by omega)
  have n2 : nu (rivG G a c) = nu G := riv_o (by omega)
  have n3 : nc (rivG G a c) = nc G := riv_o (by omega)
  refine ⟨fun i x y => ?_, fun i x y => ?_, fun i x y => ?_⟩
  · rw [n1] at y
    rw [(show dl (rivG G a c) i = dl G i from riv_o (by omega)), (show ds (rivG G a c) i = ds G i from riv_o (by omega)), (show de (rivG G a c) i = de G i from riv_o (by omega)), (show dh (rivG G a c) i = dh G i from riv_o (by omega))]
    exact b.1 i x y
  · rw [n2] at y
    rw [(show ul (rivG G a c) i = ul G i from riv_o (by omega)), (show us (rivG G a c) i = us G i from riv_o (by omega)), (show ue (rivG G a c) i = ue G i from riv_o (by omega)), (show uh (rivG G a c) i = uh G i from riv_o (by omega))]
    exact b.2.1 i x y
  · rw [n3] at y
    rw [(show ha (rivG G a c) i = ha G i from riv_o (by omega)), (show pr (rivG G a c) i = pr G i from riv_o (by omega)), (show dy (rivG G a c) i = dy G i from riv_o (by omega))]
    exact b.2.2 i x y
theorem mt_rv {G : Int → Int} {a c x y : Int} (h : mtF G x y) : mtF (rivG G a c) (max x a) (max y c) := fun j j0 j1 => by
  rw [riv_dm j0 j1]
  by_cases q : j = a
  · rw [if_pos q]; exact Or.inr (by omega)
  · rw [if_neg q]
    by_cases w : dm G j = c
    · rw [if_pos w]; exact Or.inl rfl
    · rw [if_neg w]
      rcases h j j0 j1 with z | z
      · exact Or.inl z
      · exact Or.inr (by omega)
theorem rn_bnd {T : Int → Int} {L : Int} : ∀ n : Nat, okN 0 T L n → runF 0 T L n = 0 → bndF (runC 0 T L n) ∧ mtF (runC 0 T L n) (faD T L n) (faU T L n) := by
  intro n
  induction n with
  | zero =>
    intro _ _
    have n0 : nd (ini0 0) = 0 := (show nd (ini0 0) = ini0 0 0 from rfl).trans (ini_0 (by omega))
    have n1 : nu (ini0 0) = 0 := (show nu (ini0 0) = ini0 0 1 from rfl).trans (ini_0 (by omega))
    have n2 : nc (ini0 0) = 0 := (show nc (ini0 0) = ini0 0 2 from rfl).trans (ini_0 (by omega))
    show bndF (ini0 0) ∧ mtF (ini0 0) (-1) (-1)
    exact ⟨⟨fun i a z => by rw [n0] at z; omega, fun i a z => by rw [n1] at z; omega, fun i a z => by rw [n2] at z; omega⟩, fun j a z => Or.inl (if_pos ⟨rfl, Or.inl ⟨by omega, by omega⟩⟩)⟩
  | succ n ih =>
    intro ok h
    have q := okN_p ok
    have k := rn_f h
    have i := ih q.1 k.1
    have wf := rn_wf n q.1
    have fu := k.2.2.1
    have ff := k.2.2.2
    have kn := q.2.2.1
    show bndF (lcL 0 T L (runP 0 T L n) (runC 0 T L n)) ∧ mtF (lcL 0 T L (runP 0 T L n) (runC 0 T L n)) (fdL T L (runP 0 T L n) (faD T L n)) (fpL T L (runP 0 T L n) (faU T L n))
    generalize runP 0 T L n = p at *
    generalize runC 0 T L n = C at *
    generalize faD T L n = x at *
    generalize faU T L n = y at *
    by_cases z4 : tkW T L p = 491395638644
    · have K := kn_0rivet (C := C) z4
      rw [K.2.1, K.2.2.1] at ff
      have v1 := ff_in ff
      have v2 := ff_in v1.2
      rw [K.2.2.2.2, if_pos (show (tkV T L (tkE T L p)) < 6 ∧ (tkV T L (tkE T L (tkE T L p))) < 6 by omega), show fdL T L p x = max x (tkV T L (tkE T L p)) from if_pos z4, show fpL T L p y = max y (tkV T L (tkE T L (tkE T L p))) from if_pos z4]
      exact ⟨bnd_rv wf i.1, mt_rv i.2⟩
    rw [show fdL T L p x = x from if_neg z4, show fpL T L p y = y from if_neg z4]
    by_cases z0 : tkW T L p = 1685026670
    · skip
      have K := kn_0down (C := C) z0
      rw [K.2.1, K.2.2.1] at ff
      have q6 : C 0 < 6 := Int.not_le.mp (fun t => fu (K.2.2.2.1.mpr t))
      have v1 := ff_in ff
      have v2 := ff_in v1.2
      have v3 := ff_in v2.2
      have v4 := ff_in v3.2
      rw [K.2.2.2.2]
      exact ⟨bnd_a0 wf q6 ⟨v1.1, v2.1, v3.1, v4.1⟩ i.1, mt_a0 wf q6 i.2⟩
    by_cases z1 : tkW T L p = 30064
    · skip
      have K := kn_0up (C := C) z1
      rw [K.2.1, K.2.2.1] at ff
      have q6 : C 1 < 6 := Int.not_le.mp (fun t => fu (K.2.2.2.1.mpr t))
      have v1 := ff_in ff
      have v2 := ff_in v1.2
      have v3 := ff_in v2.2
      have v4 := ff_in v3.2
      rw [K.2.2.2.2]
      exact ⟨bnd_a1 wf q6 ⟨v1.1, v2.1, v3.1, v4.1⟩ i.1, mt_a1 wf q6 i.2⟩
    have z2 : tkW T L p = 427021005928 := by unfold knL at kn; omega
    have K := kn_0cloth (C := C) z2
    rw [K.2.1, K.2.2.1] at ff
    have q6 : C 2 < 6 := Int.not_le.mp (fun t => fu (K.2.2.2.1.mpr t))
    have v1 := ff_in ff
    have v2 := ff_in v1.2
    have v3 := ff_in v2.2
    rw [K.2.2.2.2]
    exact ⟨bnd_cl wf q6 ⟨v1.1, v2.1, v3.1⟩ i.1, mt_cl wf q6 i.2⟩
theorem fe_0 {s : Int} {T : Int → Int} {L : Int} {n : Nat} (h : feF s T L n = 0) : runF s T L n = 0 ∧ ¬ msP s T L n ∧ feQ s T L n = -1 := by
  have k := @nt_0 _ (Classical.propDecidable _) 4 L (runF s T L n) (runQ s T L n) (by omega) h
  exact ⟨k.1, k.2.1, k.2.2.trans (rn_q n k.1)⟩
theorem fe_F {T : Int → Int} {L : Int} {n : Nat} (ok : okN 0 T L n) (h : feF 0 T L n = 0) : wfF (runC 0 T L n) := by
  have e := fe_0 h
  have w := rn_wf n ok
  have k := rn_bnd n ok e.1
  have ms := fun z => e.2.1 ((ms_fa ok e.1).mpr z)
  have m1 : faD T L n < nd (runC 0 T L n) := Int.not_le.mp (fun z => ms (Or.inl z))
  have m2 : faU T L n < nu (runC 0 T L n) := Int.not_le.mp (fun z => ms (Or.inr z))
  refine ⟨⟨w.1, w.2.1, k.1.1, k.1.2.1⟩, ⟨fun d a z => ?_, fun u a z => ?_⟩, w.2.2.1, k.1.2.2⟩
  · rcases k.2 d a z with q | q
    · exact Or.inl q
    · rcases w.2.2.2.1 d a z with t | t
      · exact Or.inl t
      · exact Or.inr ⟨by omega, t.1, by omega, t.2⟩
  · rcases w.2.2.2.2 u a z with t | t
    · exact Or.inl t
    · rcases k.2 _ t.1.1 t.1.2 with q | q
      · omega
      · exact Or.inr ⟨by omega, t.1, by omega, t.2⟩
def yE (a c e : Int) : Prop := (0 ≤ a ∧ a ≤ 6) ∧ (-1 ≤ c ∧ c ≤ 5) ∧ (-1 ≤ e ∧ e ≤ 5) ∧ (a = 0 ∨ a = 3 → 0 ≤ c ∧ 0 ≤ e) ∧ (a = 1 ∨ a = 2 ∨ a = 5 → 0 ≤ c) ∧ (a = 4 → 0 ≤ c ∧ c ≤ 1 ∧ 0 ≤ e)
theorem wfY_a {Y : Int → Int} {a c e : Int} (q : Y 0 < 40) (v : yE a c e) (w : wfY Y) : wfY (adY 40 Y a c e) := by
  have w1 := w.1
  obtain ⟨n0, n1, n2, n3⟩ := ay_3 (mx := 40) (Y := Y) (a := a) (c := c) (e := e) q w1.1
  refine ⟨by rw [n0]; omega, fun k x y => ?_⟩
  rw [n0] at y
  by_cases u : k = Y 0
  · rw [show ysr (adY 40 Y a c e) k = a by rw [u]; exact n1, show yfi (adY 40 Y a c e) k = c by rw [u]; exact n2, show yse (adY 40 Y a c e) k = e by rw [u]; exact n3]
    exact v
  · rw [show ysr (adY 40 Y a c e) k = ysr Y k from ay_o q (by omega), show yfi (adY 40 Y a c e) k = yfi Y k from ay_o q (by omega), show yse (adY 40 Y a c e) k = yse Y k from ay_o q (by omega)]
    exact w.2 k x (by omega)
theorem wfK_a {Y : Int → Int} {a c e : Int} (q : Y 0 < 8) (v : (0 ≤ a ∧ a ≤ 3) ∧ (0 ≤ c ∧ c ≤ 40) ∧ (0 ≤ e ∧ e ≤ 1)) (w : wfK Y) : wfK (adY 8 Y a c e) := by
  have w1 := w.1
  obtain ⟨n0, n1, n2, n3⟩ := ay_3 (mx := 8) (Y := Y) (a := a) (c := c) (e := e) q w1.1
  refine ⟨by rw [n0]; omega, fun k x y => ?_⟩
  rw [n0] at y
  by_cases u : k = Y 0
  · rw [show ysr (adY 8 Y a c e) k = a by rw [u]; exact n1, show yfi (adY 8 Y a c e) k = c by rw [u]; exact n2, show yse (adY 8 Y a c e) k = e by rw [u]; exact n3]
    exact v
  · rw [show ysr (adY 8 Y a c e) k = ysr Y k from ay_o q (by omega), show yfi (adY 8 Y a c e) k = yfi Y k from ay_o q (by omega), show yse (adY 8 Y a c e) k = yse Y k from ay_o q (by omega)]
    exact w.2 k x (by omega)
theorem rn_wY {T : Int → Int} {L : Int} : ∀ n : Nat, okN 1 T L n → runF 1 T L n = 0 → wfY (runC 1 T L n) := by
  intro n
  induction n with
  | zero =>
    intro _ _
    have e : ini0 1 0 = 0 := ini_0 (by omega)
    show wfY (ini0 1)
    exact ⟨by rw [e]; omega, fun k a z => by rw [e] at z; omega⟩
  | succ n ih =>
    intro ok h
    have q := okN_p ok
    have k := rn_f h
    have i := ih q.1 k.1
    have fu := k.2.2.1
    have ff := k.2.2.2
    have A := q.2.2
    show wfY (lcL 1 T L (runP 1 T L n) (runC 1 T L n))
    generalize runP 1 T L n = p at *
    generalize runC 1 T L n = C at *
    by_cases z_rivet : tkW T L p = 491395638644
    · have K := kn_1rivet (C := C) z_rivet
      rw [K.2.1, K.2.2.1] at ff
      have q6 : C 0 < 40 := Int.not_le.mp (fun t => fu (K.2.2.2.1.mpr t))
      have v1 := ff_in ff
      have v2 := ff_in v1.2
      rw [K.2.2.2.2]
      refine wfY_a q6 ?_ i
      unfold yE; omega
    by_cases z_cut : tkW T L p = 6518132
    · have K := kn_1cut (C := C) z_cut
      rw [K.2.1, K.2.2.1] at ff
      have q6 : C 0 < 40 := Int.not_le.mp (fun t => fu (K.2.2.2.1.mpr t))
      have v1 := ff_in ff
      have v2 := ff_in v1.2
      rw [K.2.2.2.2]
      refine wfY_a q6 ?_ i
      unfold yE; omega
    by_cases z_heat : tkW T L p = 1751474548
    · have K := kn_1heat (C := C) z_heat
      rw [K.2.1, K.2.2.1] at ff
      have q6 : C 0 < 40 := Int.not_le.mp (fun t => fu (K.2.2.2.1.mpr t))
      have v1 := ff_in ff
      rw [K.2.2.2.2]
      refine wfY_a q6 ?_ i
      unfold yE; omega
    by_cases z_part : tkW T L p = 1885434484
    · have K := kn_1part (C := C) z_part
      rw [K.2.1, K.2.2.1] at ff
      have q6 : C 0 < 40 := Int.not_le.mp (fun t => fu (K.2.2.2.1.mpr t))
      have v1 := ff_in ff
      rw [K.2.2.2.2]
      refine wfY_a q6 ?_ i
      unfold yE; omega
    by_cases z_oil : tkW T L p = 7301484
    · have K := kn_1oil (C := C) z_oil
      rw [K.2.1, K.2.2.1] at ff
      have q6 : C 0 < 40 := Int.not_le.mp (fun t => fu (K.2.2.2.1.mpr t))
      have v1 := ff_in ff
      rw [K.2.2.2.2]
      refine wfY_a q6 ?_ i
      unfold yE; omega
    by_cases z_day : tkW T L p = 6578553
    · have K := kn_1day (C := C) z_day
      rw [K.2.1, K.2.2.1] at ff
      have q6 : C 0 < 40 := Int.not_le.mp (fun t => fu (K.2.2.2.1.mpr t))
      rw [K.2.2.2.2]
      refine wfY_a q6 ?_ i
      unfold yE; omega
    have z_grind : tkW T L p = 444301143652 := by have kn := A.1; unfold knL at kn; omega
    have K := kn_1grind (C := C) z_grind
    rw [K.2.1, K.2.2.1] at ff
    have q6 : C 0 < 40 := Int.not_le.mp (fun t => fu (K.2.2.2.1.mpr t))
    have v1 := ff_in ff
    have sv : 0 ≤ (if tkW T L (tkE T L p) = 30064 then 1 else 0) ∧ (if tkW T L (tkE T L p) = 30064 then 1 else 0) ≤ (1 : Int) := by split <;> omega
    rw [K.2.2.2.2]
    refine wfY_a q6 ?_ i
    generalize (if tkW T L (tkE T L p) = 30064 then 1 else 0) = sz at *
    unfold yE; omega
theorem rn_wK {T : Int → Int} {L : Int} : ∀ n : Nat, okN 2 T L n → runF 2 T L n = 0 → wfK (runC 2 T L n) := by
  intro n
  induction n with
  | zero =>
    intro _ _
    have e : ini0 2 0 = 0 := ini_0 (by omega)
    show wfK (ini0 2)
    exact ⟨by rw [e]; omega, fun k a z => by rw [e] at z; omega⟩
  | succ n ih =>
    intro ok h
    have q := okN_p ok
    have k := rn_f h
    have i := ih q.1 k.1
    have fu := k.2.2.1
    have ff := k.2.2.2
    have A := q.2.2
    show wfK (lcL 2 T L (runP 2 T L n) (runC 2 T L n))
    generalize runP 2 T L n = p at *
    generalize runC 2 T L n = C at *
    by_cases z_long : tkW T L p = 1819242087
    · skip
      by_cases zn : tkW T L (tkE T L p) = 28271
      · have K := kn_2long_no (C := C) z_long zn
        rw [K.2.1, K.2.2.1] at ff
        have q6 : C 0 < 8 := Int.not_le.mp (fun t => fu (K.2.2.2.1.mpr t))
        have v1 := ff_in ff
        rw [K.2.2.2.2]
        exact wfK_a q6 (by omega) i
      · have K := kn_2long_so (C := C) z_long zn
        rw [K.2.1, K.2.2.1] at ff
        have q6 : C 0 < 8 := Int.not_le.mp (fun t => fu (K.2.2.2.1.mpr t))
        have v1 := ff_in ff
        rw [K.2.2.2.2]
        exact wfK_a q6 (by omega) i
    by_cases z_apart : tkW T L p = 418497262196
    · skip
      by_cases zn : tkW T L (tkE T L p) = 28271
      · have K := kn_2apart_no (C := C) z_apart zn
        rw [K.2.1, K.2.2.1] at ff
        have q6 : C 0 < 8 := Int.not_le.mp (fun t => fu (K.2.2.2.1.mpr t))
        have v1 := ff_in ff
        rw [K.2.2.2.2]
        exact wfK_a q6 (by omega) i
      · have K := kn_2apart_so (C := C) z_apart zn
        rw [K.2.1, K.2.2.1] at ff
        have q6 : C 0 < 8 := Int.not_le.mp (fun t => fu (K.2.2.2.1.mpr t))
        have v1 := ff_in ff
        rw [K.2.2.2.2]
        exact wfK_a q6 (by omega) i
    by_cases z_rough : tkW T L p = 491496236904
    · skip
      by_cases zn : tkW T L (tkE T L p) = 28271
      · have K := kn_2rough_no (C := C) z_rough zn
        rw [K.2.1, K.2.2.1] at ff
        have q6 : C 0 < 8 := Int.not_le.mp (fun t => fu (K.2.2.2.1.mpr t))
        have v1 := ff_in ff
        rw [K.2.2.2.2]
        exact wfK_a q6 (by omega) i
      · have K := kn_2rough_so (C := C) z_rough zn
        rw [K.2.1, K.2.2.1] at ff
        have q6 : C 0 < 8 := Int.not_le.mp (fun t => fu (K.2.2.2.1.mpr t))
        have v1 := ff_in ff
        rw [K.2.2.2.2]
        exact wfK_a q6 (by omega) i
    have z_left : tkW T L p = 1818584692 := by have kn := A.1; unfold knL at kn; omega
    by_cases zn : tkW T L (tkE T L p) = 28271
    · have K := kn_2left_no (C := C) z_left zn
      rw [K.2.1, K.2.2.1] at ff
      have q6 : C 0 < 8 := Int.not_le.mp (fun t => fu (K.2.2.2.1.mpr t))
      have v1 := ff_in ff
      rw [K.2.2.2.2]
      exact wfK_a q6 (by omega) i
    · have K := kn_2left_so (C := C) z_left zn
      rw [K.2.1, K.2.2.1] at ff
      have q6 : C 0 < 8 := Int.not_le.mp (fun t => fu (K.2.2.2.1.mpr t))
      have v1 := ff_in ff
      rw [K.2.2.2.2]
      exact wfK_a q6 (by omega) i
theorem ok_u {s : Int} {T : Int → Int} {L : Int} {n1 n2 : Nat} (o1 : okN s T L n1) (o2 : okN s T L n2) (e1 : tkK T L (runP s T L n1) = 3 ∨ ¬ lnA s T L (runP s T L n1)) (e2 : tkK T L (runP s T L n2) = 3 ∨ ¬ lnA s T L (runP s T L n2)) : n1 = n2 := by
  rcases Nat.lt_trichotomy n1 n2 with z | z | z
  · have := o2 n1 z
    rcases e1 with w | w
    · exact absurd w this.1
    · exact absurd this.2 w
  · exact z
  · have := o1 n2 z
    rcases e2 with w | w
    · exact absurd w this.1
    · exact absurd this.2 w
