/-! TEXT: a line, whatever it tells -/
theorem dX6_forgeLine_0 : decode cX6_forgeLine 0 = .ok (.aload_n 0, 1) := by decide +kernel
theorem dX6_forgeLine_1 : decode cX6_forgeLine 1 = .ok (.ldc 121, 2) := by decide +kernel
theorem dX6_forgeLine_3 : decode cX6_forgeLine 3 = .ok (.invokevirtual 123, 3) := by decide +kernel
theorem dX6_forgeLine_6 : decode cX6_forgeLine 6 = .ok (.ifCond .eq 15, 3) := by decide +kernel
theorem dX6_forgeLine_9 : decode cX6_forgeLine 9 = .ok (.aload_n 0, 1) := by decide +kernel
theorem dX6_forgeLine_10 : decode cX6_forgeLine 10 = .ok (.aload_n 0, 1) := by decide +kernel
theorem dX6_forgeLine_11 : decode cX6_forgeLine 11 = .ok (.getfield 12, 3) := by decide +kernel
theorem dX6_forgeLine_14 : decode cX6_forgeLine 14 = .ok (.getfield 82, 3) := by decide +kernel
theorem dX6_forgeLine_17 : decode cX6_forgeLine 17 = .ok (.invokevirtual 127, 3) := by decide +kernel
theorem dX6_forgeLine_20 : decode cX6_forgeLine 20 = .ok (.ireturn, 1) := by decide +kernel
theorem dX6_forgeLine_21 : decode cX6_forgeLine 21 = .ok (.aload_n 0, 1) := by decide +kernel
theorem dX6_forgeLine_22 : decode cX6_forgeLine 22 = .ok (.ldc 131, 2) := by decide +kernel
theorem dX6_forgeLine_24 : decode cX6_forgeLine 24 = .ok (.invokevirtual 123, 3) := by decide +kernel
theorem dX6_forgeLine_27 : decode cX6_forgeLine 27 = .ok (.ifCond .eq 15, 3) := by decide +kernel
theorem dX6_forgeLine_30 : decode cX6_forgeLine 30 = .ok (.aload_n 0, 1) := by decide +kernel
theorem dX6_forgeLine_31 : decode cX6_forgeLine 31 = .ok (.aload_n 0, 1) := by decide +kernel
theorem dX6_forgeLine_32 : decode cX6_forgeLine 32 = .ok (.getfield 12, 3) := by decide +kernel
theorem dX6_forgeLine_35 : decode cX6_forgeLine 35 = .ok (.getfield 91, 3) := by decide +kernel
theorem dX6_forgeLine_38 : decode cX6_forgeLine 38 = .ok (.invokevirtual 127, 3) := by decide +kernel
theorem dX6_forgeLine_41 : decode cX6_forgeLine 41 = .ok (.ireturn, 1) := by decide +kernel
theorem dX6_forgeLine_42 : decode cX6_forgeLine 42 = .ok (.aload_n 0, 1) := by decide +kernel
theorem dX6_forgeLine_43 : decode cX6_forgeLine 43 = .ok (.ldc 133, 2) := by decide +kernel
theorem dX6_forgeLine_45 : decode cX6_forgeLine 45 = .ok (.invokevirtual 123, 3) := by decide +kernel
theorem dX6_forgeLine_48 : decode cX6_forgeLine 48 = .ok (.ifCond .eq 8, 3) := by decide +kernel
theorem dX6_forgeLine_51 : decode cX6_forgeLine 51 = .ok (.aload_n 0, 1) := by decide +kernel
theorem dX6_forgeLine_52 : decode cX6_forgeLine 52 = .ok (.invokevirtual 135, 3) := by decide +kernel
theorem dX6_forgeLine_55 : decode cX6_forgeLine 55 = .ok (.ireturn, 1) := by decide +kernel
theorem dX6_forgeLine_56 : decode cX6_forgeLine 56 = .ok (.aload_n 0, 1) := by decide +kernel
theorem dX6_forgeLine_57 : decode cX6_forgeLine 57 = .ok (.ldc 138, 2) := by decide +kernel
theorem dX6_forgeLine_59 : decode cX6_forgeLine 59 = .ok (.invokevirtual 123, 3) := by decide +kernel
theorem dX6_forgeLine_62 : decode cX6_forgeLine 62 = .ok (.ifCond .eq 10, 3) := by decide +kernel
theorem dX6_forgeLine_65 : decode cX6_forgeLine 65 = .ok (.aload_n 0, 1) := by decide +kernel
theorem dX6_forgeLine_66 : decode cX6_forgeLine 66 = .ok (.invokevirtual 140, 3) := by decide +kernel
theorem dX6_forgeLine_69 : decode cX6_forgeLine 69 = .ok (.goto 7, 3) := by decide +kernel
theorem dX6_forgeLine_72 : decode cX6_forgeLine 72 = .ok (.aload_n 0, 1) := by decide +kernel
theorem dX6_forgeLine_73 : decode cX6_forgeLine 73 = .ok (.invokevirtual 143, 3) := by decide +kernel
theorem dX6_forgeLine_76 : decode cX6_forgeLine 76 = .ok (.ireturn, 1) := by decide +kernel
theorem tf_6_82 : tFld TB0 6 82 = some (2, 0) := rfl
theorem tf_6_91 : tFld TB0 6 91 = some (2, 1) := rfl
set_option maxRecDepth 20000 in
theorem tm_6_127 : tMet TB0 6 127 = some (0, M_X6_bladeLine) := rfl
set_option maxRecDepth 20000 in
theorem tm_6_135 : tMet TB0 6 135 = some (0, M_X6_clothLine) := rfl
set_option maxRecDepth 20000 in
theorem tm_6_140 : tMet TB0 6 140 = some (0, M_X6_rivetLine) := rfl
theorem tl_6_133 : tLdc TB0 6 133 = some (.inr 7) := rfl
/-! TEXT: a line, whatever it tells -/
def knL (s W : Int) : Prop := (s = 0 ∧ (W = 1685026670 ∨ W = 30064 ∨ W = 427021005928 ∨ W = 491395638644)) ∨ (s = 1 ∧ (W = 491395638644 ∨ W = 1751474548 ∨ W = 1885434484 ∨ W = 6518132 ∨ W = 444301143652 ∨ W = 7301484 ∨ W = 6578553)) ∨ (s = 2 ∧ (W = 1819242087 ∨ W = 418497262196 ∨ W = 491496236904 ∨ W = 1818584692))
def bsL (s W : Int) : List (Int × Int) := if s = 0 then (if W = 1685026670 ∨ W = 30064 then [(1, 20), (0, 3), (0, 20), (0, 1)] else if W = 427021005928 then [(1, 70), (0, 20), (0, 9)] else [(0, 5), (0, 5)]) else if s = 1 then (if W = 491395638644 ∨ W = 6518132 then [(0, 5), (0, 5)] else if W = 6578553 then [] else [(0, 5)]) else [(0, if W = 418497262196 then 20 else if W = 1818584692 then 2 else 40)]
def npL (s : Int) (T : Int → Int) (L p : Int) : Int := if (s = 1 ∧ tkW T L p = 444301143652) ∨ (s = 2 ∧ tkW T L (tkE T L p) = 28271) then tkE T L (tkE T L p) else tkE T L p
def sdL (s : Int) (T : Int → Int) (L p : Int) : Prop := ¬ (s = 1 ∧ tkW T L p = 444301143652) ∨ (tkW T L (tkE T L p) = 1685026670 ∨ tkW T L (tkE T L p) = 30064)
def lnA (s : Int) (T : Int → Int) (L p : Int) : Prop := knL s (tkW T L p) ∧ sdL s T L p ∧ acL T L (bsL s (tkW T L p)) (npL s T L p)
noncomputable def lnX (s : Int) (T : Int → Int) (L p : Int) : Int := @ite Int (knL s (tkW T L p)) (Classical.propDecidable _) (@ite Int (sdL s T L p) (Classical.propDecidable _) (xpL T L (bsL s (tkW T L p)) (npL s T L p)) (tkS T L (tkE T L p))) (tkS T L p)
def lnE (s : Int) (T : Int → Int) (L p : Int) : Int := enL T L (bsL s (tkW T L p)) (npL s T L p)
def fuL (s W : Int) (C : Int → Int) : Prop := (s = 0 ∧ ((W = 1685026670 ∧ 6 ≤ C 0) ∨ (W = 30064 ∧ 6 ≤ C 1) ∨ (W = 427021005928 ∧ 6 ≤ C 2))) ∨ (s = 1 ∧ 40 ≤ C 0) ∨ (s = 2 ∧ 8 ≤ C 0)
noncomputable def f1L (s : Int) (T : Int → Int) (L p : Int) (C : Int → Int) (f : Int) : Int := @ntF (fuL s (tkW T L p) C) (Classical.propDecidable _) 3 f
noncomputable def q1L (s : Int) (T : Int → Int) (L p : Int) (C : Int → Int) (f q : Int) : Int := @ntQ (fuL s (tkW T L p) C) (Classical.propDecidable _) (tkS T L p) f q
noncomputable def lfL (s : Int) (T : Int → Int) (L p : Int) (C : Int → Int) (f : Int) : Int := ffL T L (bsL s (tkW T L p)) (npL s T L p) (f1L s T L p C f)
noncomputable def lqL (s : Int) (T : Int → Int) (L p : Int) (C : Int → Int) (f q : Int) : Int := fqL T L (bsL s (tkW T L p)) (npL s T L p) (f1L s T L p C f) (q1L s T L p C f q)
def lcL (s : Int) (T : Int → Int) (L p : Int) (C : Int → Int) : Int → Int := if s = 0 then (if tkW T L p = 1685026670 then adG C 0 (tkV T L (tkE T L p)) (tkV T L (tkE T L (tkE T L p))) (tkV T L (tkE T L (tkE T L (tkE T L p)))) (tkV T L (tkE T L (tkE T L (tkE T L (tkE T L p))))) else if tkW T L p = 30064 then adG C 1 (tkV T L (tkE T L p)) (tkV T L (tkE T L (tkE T L p))) (tkV T L (tkE T L (tkE T L (tkE T L p)))) (tkV T L (tkE T L (tkE T L (tkE T L (tkE T L p))))) else if tkW T L p = 427021005928 then clG C (tkV T L (tkE T L p)) (tkV T L (tkE T L (tkE T L p))) (tkV T L (tkE T L (tkE T L (tkE T L p)))) else if (tkV T L (tkE T L p)) < 6 ∧ (tkV T L (tkE T L (tkE T L p))) < 6 then rivG C (tkV T L (tkE T L p)) (tkV T L (tkE T L (tkE T L p))) else C) else if s = 1 then (if tkW T L p = 491395638644 then adY 40 C 0 (tkV T L (tkE T L p)) (tkV T L (tkE T L (tkE T L p))) else if tkW T L p = 6518132 then adY 40 C 3 (tkV T L (tkE T L p)) (tkV T L (tkE T L (tkE T L p))) else if tkW T L p = 1751474548 then adY 40 C 1 (tkV T L (tkE T L p)) (-1) else if tkW T L p = 1885434484 then adY 40 C 2 (tkV T L (tkE T L p)) (-1) else if tkW T L p = 7301484 then adY 40 C 5 (tkV T L (tkE T L p)) (-1) else if tkW T L p = 6578553 then adY 40 C 6 (-1) (-1) else adY 40 C 4 (if tkW T L (tkE T L p) = 30064 then 1 else 0) (tkV T L (tkE T L (tkE T L p)))) else adY 8 C (if tkW T L p = 1819242087 then 0 else if tkW T L p = 418497262196 then 1 else if tkW T L p = 491496236904 then 2 else 3) (tkV T L (npL s T L p)) (if tkW T L (tkE T L p) = 28271 then 0 else 1)
def ldL (T : Int → Int) (L p D : Int) : Int := if tkW T L p = 491395638644 ∧ ((tkV T L (tkE T L p)) < 6 ∧ (tkV T L (tkE T L (tkE T L p))) < 6) then orZ D (shlZ 1 (tkV T L (tkE T L p))) else D
def luL (T : Int → Int) (L p U : Int) : Int := if tkW T L p = 491395638644 ∧ ((tkV T L (tkE T L p)) < 6 ∧ (tkV T L (tkE T L (tkE T L p))) < 6) then orZ U (shlZ 1 (tkV T L (tkE T L (tkE T L p)))) else U
def flO (h1 : mH) (y : Nat) (T : Int → Int) (L s p f q : Int) (C : Int → Int) (v : Int) (X : Prop) : Prop := (v = 1 ∧ lnA s T L p ∧ rdP h1 y T L (lnE s T L p) ∧ rdF h1 y (lfL s T L p C f) (lqL s T L p C f q) ∧ X) ∨ (v = 0 ∧ ¬ lnA s T L p ∧ rdF h1 y 1 (lnX s T L p))
theorem ln_of {h1 : mH} {y : Nat} {T : Int → Int} {L s p f q v p0 : Int} {C : Int → Int} {X X' c : Prop} [Decidable c] {bs : List (Int × Int)} (kn : knL s (tkW T L p)) (sd : sdL s T L p) (eb : bsL s (tkW T L p) = bs) (ep : npL s T L p = p0) (ec : fuL s (tkW T L p) C ↔ c) (hx : X → X') (H : lnO h1 y T L bs p0 (ntF c 3 f) (ntQ c (tkS T L p) f q) v X) : flO h1 y T L s p f q C v X' := by
  have n1 : f1L s T L p C f = ntF c 3 f := (@nt_iff _ _ (Classical.propDecidable _) _ 3 (tkS T L p) f q ec).1
  have n2 : q1L s T L p C f q = ntQ c (tkS T L p) f q := (@nt_iff _ _ (Classical.propDecidable _) _ 3 (tkS T L p) f q ec).2
  rcases H with ⟨a, d, e, g, x⟩ | ⟨a, d, e⟩
  · refine Or.inl ⟨a, ⟨kn, sd, by rw [eb, ep]; exact d⟩, ?_, ?_, hx x⟩
    · unfold lnE; rw [eb, ep]; exact e
    · unfold lfL lqL; rw [eb, ep, n1, n2]; exact g
  · refine Or.inr ⟨a, fun z => d (by have z2 := z.2.2; rw [eb, ep] at z2; exact z2), ?_⟩
    unfold lnX
    rw [if_pos kn, if_pos sd, eb, ep]; exact e
theorem ln_bad {h1 : mH} {y : Nat} {T : Int → Int} {L s p f q : Int} {C : Int → Int} {X : Prop} (kn : ¬ knL s (tkW T L p)) (H : rdF h1 y 1 (tkS T L p)) : flO h1 y T L s p f q C 0 X := Or.inr ⟨rfl, fun z => kn z.1, by unfold lnX; rw [if_neg kn]; exact H⟩
theorem ln_side {h1 : mH} {y : Nat} {T : Int → Int} {L s p f q v : Int} {C : Int → Int} {X : Prop} (kn : knL s (tkW T L p)) (sd : ¬ sdL s T L p) (e : v = 0) (H : rdF h1 y 1 (tkS T L (tkE T L p))) : flO h1 y T L s p f q C v X := Or.inr ⟨e, fun z => sd z.2.1, by unfold lnX; rw [if_pos kn, if_neg sd]; exact H⟩
theorem kn_0down {T C : Int → Int} {L p : Int} (z : tkW T L p = 1685026670) : knL 0 (tkW T L p) ∧ bsL 0 (tkW T L p) = [(1, 20), (0, 3), (0, 20), (0, 1)] ∧ npL 0 T L p = (tkE T L p) ∧ (fuL 0 (tkW T L p) C ↔ 6 ≤ C 0) ∧ lcL 0 T L p C = adG C 0 (tkV T L (tkE T L p)) (tkV T L (tkE T L (tkE T L p))) (tkV T L (tkE T L (tkE T L (tkE T L p)))) (tkV T L (tkE T L (tkE T L (tkE T L (tkE T L p))))) := by
  refine ⟨?_, ?_, ?_, ?_, ?_⟩
  · unfold knL; omega
  · unfold bsL; rw [if_pos (by omega), if_pos (by omega)]
  · unfold npL; rw [if_neg (by omega)]
  · unfold fuL; omega
  · unfold lcL; rw [if_pos (by omega), if_pos (by omega)]
theorem kn_0up {T C : Int → Int} {L p : Int} (z : tkW T L p = 30064) : knL 0 (tkW T L p) ∧ bsL 0 (tkW T L p) = [(1, 20), (0, 3), (0, 20), (0, 1)] ∧ npL 0 T L p = (tkE T L p) ∧ (fuL 0 (tkW T L p) C ↔ 6 ≤ C 1) ∧ lcL 0 T L p C = adG C 1 (tkV T L (tkE T L p)) (tkV T L (tkE T L (tkE T L p))) (tkV T L (tkE T L (tkE T L (tkE T L p)))) (tkV T L (tkE T L (tkE T L (tkE T L (tkE T L p))))) := by
  refine ⟨?_, ?_, ?_, ?_, ?_⟩
  · unfold knL; omega
  · unfold bsL; rw [if_pos (by omega), if_pos (by omega)]
  · unfold npL; rw [if_neg (by omega)]
  · unfold fuL; omega
  · unfold lcL; rw [if_pos (by omega), if_neg (by omega), if_pos (by omega)]
theorem kn_0cloth {T C : Int → Int} {L p : Int} (z : tkW T L p = 427021005928) : knL 0 (tkW T L p) ∧ bsL 0 (tkW T L p) = [(1, 70), (0, 20), (0, 9)] ∧ npL 0 T L p = (tkE T L p) ∧ (fuL 0 (tkW T L p) C ↔ 6 ≤ C 2) ∧ lcL 0 T L p C = clG C (tkV T L (tkE T L p)) (tkV T L (tkE T L (tkE T L p))) (tkV T L (tkE T L (tkE T L (tkE T L p)))) := by
  refine ⟨?_, ?_, ?_, ?_, ?_⟩
  · unfold knL; omega
  · unfold bsL; rw [if_pos (by omega), if_neg (by omega), if_pos (by omega)]
  · unfold npL; rw [if_neg (by omega)]
  · unfold fuL; omega
  · unfold lcL; rw [if_pos (by omega), if_neg (by omega), if_neg (by omega), if_pos (by omega)]
theorem kn_0rivet {T C : Int → Int} {L p : Int} (z : tkW T L p = 491395638644) : knL 0 (tkW T L p) ∧ bsL 0 (tkW T L p) = [(0, 5), (0, 5)] ∧ npL 0 T L p = (tkE T L p) ∧ (fuL 0 (tkW T L p) C ↔ False) ∧ lcL 0 T L p C = (if (tkV T L (tkE T L p)) < 6 ∧ (tkV T L (tkE T L (tkE T L p))) < 6 then rivG C (tkV T L (tkE T L p)) (tkV T L (tkE T L (tkE T L p))) else C) := by
  refine ⟨?_, ?_, ?_, ?_, ?_⟩
  · unfold knL; omega
  · unfold bsL; rw [if_pos (by omega), if_neg (by omega), if_neg (by omega)]
  · unfold npL; rw [if_neg (by omega)]
  · unfold fuL; exact ⟨fun z => by omega, fun z => z.elim⟩
  · unfold lcL; rw [if_pos (by omega), if_neg (by omega), if_neg (by omega), if_neg (by omega)]
theorem kn_1rivet {T C : Int → Int} {L p : Int} (z : tkW T L p = 491395638644) : knL 1 (tkW T L p) ∧ bsL 1 (tkW T L p) = [(0, 5), (0, 5)] ∧ npL 1 T L p = (tkE T L p) ∧ (fuL 1 (tkW T L p) C ↔ 40 ≤ C 0) ∧ lcL 1 T L p C = adY 40 C 0 (tkV T L (tkE T L p)) (tkV T L (tkE T L (tkE T L p))) := by
  refine ⟨?_, ?_, ?_, ?_, ?_⟩
  · unfold knL; omega
  · unfold bsL; rw [if_neg (by omega), if_pos (by omega), if_pos (by omega)]
  · unfold npL; rw [if_neg (by omega)]
  · unfold fuL; omega
  · unfold lcL; rw [if_neg (by omega), if_pos (by omega), if_pos (by omega)]
theorem kn_1cut {T C : Int → Int} {L p : Int} (z : tkW T L p = 6518132) : knL 1 (tkW T L p) ∧ bsL 1 (tkW T L p) = [(0, 5), (0, 5)] ∧ npL 1 T L p = (tkE T L p) ∧ (fuL 1 (tkW T L p) C ↔ 40 ≤ C 0) ∧ lcL 1 T L p C = adY 40 C 3 (tkV T L (tkE T L p)) (tkV T L (tkE T L (tkE T L p))) := by
  refine ⟨?_, ?_, ?_, ?_, ?_⟩
  · unfold knL; omega
  · unfold bsL; rw [if_neg (by omega), if_pos (by omega), if_pos (by omega)]
  · unfold npL; rw [if_neg (by omega)]
  · unfold fuL; omega
  · unfold lcL; rw [if_neg (by omega), if_pos (by omega), if_neg (by omega), if_pos (by omega)]
theorem kn_1heat {T C : Int → Int} {L p : Int} (z : tkW T L p = 1751474548) : knL 1 (tkW T L p) ∧ bsL 1 (tkW T L p) = [(0, 5)] ∧ npL 1 T L p = (tkE T L p) ∧ (fuL 1 (tkW T L p) C ↔ 40 ≤ C 0) ∧ lcL 1 T L p C = adY 40 C 1 (tkV T L (tkE T L p)) (-1) := by
  refine ⟨?_, ?_, ?_, ?_, ?_⟩
  · unfold knL; omega
  · unfold bsL; rw [if_neg (by omega), if_pos (by omega), if_neg (by omega), if_neg (by omega)]
  · unfold npL; rw [if_neg (by omega)]
  · unfold fuL; omega
  · unfold lcL; rw [if_neg (by omega), if_pos (by omega), if_neg (by omega), if_neg (by omega), if_pos (by omega)]
theorem kn_1part {T C : Int → Int} {L p : Int} (z : tkW T L p = 1885434484) : knL 1 (tkW T L p) ∧ bsL 1 (tkW T L p) = [(0, 5)] ∧ npL 1 T L p = (tkE T L p) ∧ (fuL 1 (tkW T L p) C ↔ 40 ≤ C 0) ∧ lcL 1 T L p C = adY 40 C 2 (tkV T L (tkE T L p)) (-1) := by
  refine ⟨?_, ?_, ?_, ?_, ?_⟩
  · unfold knL; omega
  · unfold bsL; rw [if_neg (by omega), if_pos (by omega), if_neg (by omega), if_neg (by omega)]
  · unfold npL; rw [if_neg (by omega)]
  · unfold fuL; omega
  · unfold lcL; rw [if_neg (by omega), if_pos (by omega), if_neg (by omega), if_neg (by omega), if_neg (by omega), if_pos (by omega)]
theorem kn_1oil {T C : Int → Int} {L p : Int} (z : tkW T L p = 7301484) : knL 1 (tkW T L p) ∧ bsL 1 (tkW T L p) = [(0, 5)] ∧ npL 1 T L p = (tkE T L p) ∧ (fuL 1 (tkW T L p) C ↔ 40 ≤ C 0) ∧ lcL 1 T L p C = adY 40 C 5 (tkV T L (tkE T L p)) (-1) := by
  refine ⟨?_, ?_, ?_, ?_, ?_⟩
  · unfold knL; omega
  · unfold bsL; rw [if_neg (by omega), if_pos (by omega), if_neg (by omega), if_neg (by omega)]
  · unfold npL; rw [if_neg (by omega)]
  · unfold fuL; omega
  · unfold lcL; rw [if_neg (by omega), if_pos (by omega), if_neg (by omega), if_neg (by omega), if_neg (by omega), if_neg (by omega), if_pos (by omega)]
theorem kn_1day {T C : Int → Int} {L p : Int} (z : tkW T L p = 6578553) : knL 1 (tkW T L p) ∧ bsL 1 (tkW T L p) = [] ∧ npL 1 T L p = (tkE T L p) ∧ (fuL 1 (tkW T L p) C ↔ 40 ≤ C 0) ∧ lcL 1 T L p C = adY 40 C 6 (-1) (-1) := by
  refine ⟨?_, ?_, ?_, ?_, ?_⟩
  · unfold knL; omega
  · unfold bsL; rw [if_neg (by omega), if_pos (by omega), if_neg (by omega), if_pos (by omega)]
  · unfold npL; rw [if_neg (by omega)]
  · unfold fuL; omega
  · unfold lcL; rw [if_neg (by omega), if_pos (by omega), if_neg (by omega), if_neg (by omega), if_neg (by omega), if_neg (by omega), if_neg (by omega), if_pos (by omega)]
theorem kn_1grind {T C : Int → Int} {L p : Int} (z : tkW T L p = 444301143652) : knL 1 (tkW T L p) ∧ bsL 1 (tkW T L p) = [(0, 5)] ∧ npL 1 T L p = (tkE T L (tkE T L p)) ∧ (fuL 1 (tkW T L p) C ↔ 40 ≤ C 0) ∧ lcL 1 T L p C = adY 40 C 4 (if tkW T L (tkE T L p) = 30064 then 1 else 0) (tkV T L (tkE T L (tkE T L p))) := by
  refine ⟨?_, ?_, ?_, ?_, ?_⟩
  · unfold knL; omega
  · unfold bsL; rw [if_neg (by omega), if_pos (by omega), if_neg (by omega), if_neg (by omega)]
  · unfold npL; rw [if_pos (by omega)]
  · unfold fuL; omega
  · unfold lcL; rw [if_neg (by omega), if_pos (by omega), if_neg (by omega), if_neg (by omega), if_neg (by omega), if_neg (by omega), if_neg (by omega), if_neg (by omega)]
theorem kn_2long_no {T C : Int → Int} {L p : Int} (z : tkW T L p = 1819242087) (zn : tkW T L (tkE T L p) = 28271) : knL 2 (tkW T L p) ∧ bsL 2 (tkW T L p) = [(0, 40)] ∧ npL 2 T L p = (tkE T L (tkE T L p)) ∧ (fuL 2 (tkW T L p) C ↔ 8 ≤ C 0) ∧ lcL 2 T L p C = adY 8 C 0 (tkV T L (tkE T L (tkE T L p))) 0 := by
  refine ⟨?_, ?_, ?_, ?_, ?_⟩
  · unfold knL; omega
  · unfold bsL; rw [if_neg (by omega), if_neg (by omega), if_neg (by omega), if_neg (by omega)]
  · unfold npL; rw [if_pos (by omega)]
  · unfold fuL; omega
  · unfold lcL; rw [if_neg (by omega), if_neg (by omega), if_pos (by omega), show npL 2 T L p = (tkE T L (tkE T L p)) by unfold npL; rw [if_pos (by omega)], if_pos (by omega)]
theorem kn_2long_so {T C : Int → Int} {L p : Int} (z : tkW T L p = 1819242087) (zn : tkW T L (tkE T L p) ≠ 28271) : knL 2 (tkW T L p) ∧ bsL 2 (tkW T L p) = [(0, 40)] ∧ npL 2 T L p = (tkE T L p) ∧ (fuL 2 (tkW T L p) C ↔ 8 ≤ C 0) ∧ lcL 2 T L p C = adY 8 C 0 (tkV T L (tkE T L p)) 1 := by
  refine ⟨?_, ?_, ?_, ?_, ?_⟩
  · unfold knL; omega
  · unfold bsL; rw [if_neg (by omega), if_neg (by omega), if_neg (by omega), if_neg (by omega)]
  · unfold npL; rw [if_neg (by omega)]
  · unfold fuL; omega
  · unfold lcL; rw [if_neg (by omega), if_neg (by omega), if_pos (by omega), show npL 2 T L p = (tkE T L p) by unfold npL; rw [if_neg (by omega)], if_neg (by omega)]
theorem kn_2apart_no {T C : Int → Int} {L p : Int} (z : tkW T L p = 418497262196) (zn : tkW T L (tkE T L p) = 28271) : knL 2 (tkW T L p) ∧ bsL 2 (tkW T L p) = [(0, 20)] ∧ npL 2 T L p = (tkE T L (tkE T L p)) ∧ (fuL 2 (tkW T L p) C ↔ 8 ≤ C 0) ∧ lcL 2 T L p C = adY 8 C 1 (tkV T L (tkE T L (tkE T L p))) 0 := by
  refine ⟨?_, ?_, ?_, ?_, ?_⟩
  · unfold knL; omega
  · unfold bsL; rw [if_neg (by omega), if_neg (by omega), if_pos (by omega)]
  · unfold npL; rw [if_pos (by omega)]
  · unfold fuL; omega
  · unfold lcL; rw [if_neg (by omega), if_neg (by omega), if_neg (by omega), if_pos (by omega), show npL 2 T L p = (tkE T L (tkE T L p)) by unfold npL; rw [if_pos (by omega)], if_pos (by omega)]
theorem kn_2apart_so {T C : Int → Int} {L p : Int} (z : tkW T L p = 418497262196) (zn : tkW T L (tkE T L p) ≠ 28271) : knL 2 (tkW T L p) ∧ bsL 2 (tkW T L p) = [(0, 20)] ∧ npL 2 T L p = (tkE T L p) ∧ (fuL 2 (tkW T L p) C ↔ 8 ≤ C 0) ∧ lcL 2 T L p C = adY 8 C 1 (tkV T L (tkE T L p)) 1 := by
  refine ⟨?_, ?_, ?_, ?_, ?_⟩
  · unfold knL; omega
  · unfold bsL; rw [if_neg (by omega), if_neg (by omega), if_pos (by omega)]
  · unfold npL; rw [if_neg (by omega)]
  · unfold fuL; omega
  · unfold lcL; rw [if_neg (by omega), if_neg (by omega), if_neg (by omega), if_pos (by omega), show npL 2 T L p = (tkE T L p) by unfold npL; rw [if_neg (by omega)], if_neg (by omega)]
theorem kn_2rough_no {T C : Int → Int} {L p : Int} (z : tkW T L p = 491496236904) (zn : tkW T L (tkE T L p) = 28271) : knL 2 (tkW T L p) ∧ bsL 2 (tkW T L p) = [(0, 40)] ∧ npL 2 T L p = (tkE T L (tkE T L p)) ∧ (fuL 2 (tkW T L p) C ↔ 8 ≤ C 0) ∧ lcL 2 T L p C = adY 8 C 2 (tkV T L (tkE T L (tkE T L p))) 0 := by
  refine ⟨?_, ?_, ?_, ?_, ?_⟩
  · unfold knL; omega
  · unfold bsL; rw [if_neg (by omega), if_neg (by omega), if_neg (by omega), if_neg (by omega)]
  · unfold npL; rw [if_pos (by omega)]
  · unfold fuL; omega
  · unfold lcL; rw [if_neg (by omega), if_neg (by omega), if_neg (by omega), if_neg (by omega), if_pos (by omega), show npL 2 T L p = (tkE T L (tkE T L p)) by unfold npL; rw [if_pos (by omega)], if_pos (by omega)]
theorem kn_2rough_so {T C : Int → Int} {L p : Int} (z : tkW T L p = 491496236904) (zn : tkW T L (tkE T L p) ≠ 28271) : knL 2 (tkW T L p) ∧ bsL 2 (tkW T L p) = [(0, 40)] ∧ npL 2 T L p = (tkE T L p) ∧ (fuL 2 (tkW T L p) C ↔ 8 ≤ C 0) ∧ lcL 2 T L p C = adY 8 C 2 (tkV T L (tkE T L p)) 1 := by
  refine ⟨?_, ?_, ?_, ?_, ?_⟩
  · unfold knL; omega
  · unfold bsL; rw [if_neg (by omega), if_neg (by omega), if_neg (by omega), if_neg (by omega)]
  · unfold npL; rw [if_neg (by omega)]
  · unfold fuL; omega
  · unfold lcL; rw [if_neg (by omega), if_neg (by omega), if_neg (by omega), if_neg (by omega), if_pos (by omega), show npL 2 T L p = (tkE T L p) by unfold npL; rw [if_neg (by omega)], if_neg (by omega)]
theorem kn_2left_no {T C : Int → Int} {L p : Int} (z : tkW T L p = 1818584692) (zn : tkW T L (tkE T L p) = 28271) : knL 2 (tkW T L p) ∧ bsL 2 (tkW T L p) = [(0, 2)] ∧ npL 2 T L p = (tkE T L (tkE T L p)) ∧ (fuL 2 (tkW T L p) C ↔ 8 ≤ C 0) ∧ lcL 2 T L p C = adY 8 C 3 (tkV T L (tkE T L (tkE T L p))) 0 := by
  refine ⟨?_, ?_, ?_, ?_, ?_⟩
  · unfold knL; omega
  · unfold bsL; rw [if_neg (by omega), if_neg (by omega), if_neg (by omega), if_pos (by omega)]
  · unfold npL; rw [if_pos (by omega)]
  · unfold fuL; omega
  · unfold lcL; rw [if_neg (by omega), if_neg (by omega), if_neg (by omega), if_neg (by omega), if_neg (by omega), show npL 2 T L p = (tkE T L (tkE T L p)) by unfold npL; rw [if_pos (by omega)], if_pos (by omega)]
theorem kn_2left_so {T C : Int → Int} {L p : Int} (z : tkW T L p = 1818584692) (zn : tkW T L (tkE T L p) ≠ 28271) : knL 2 (tkW T L p) ∧ bsL 2 (tkW T L p) = [(0, 2)] ∧ npL 2 T L p = (tkE T L p) ∧ (fuL 2 (tkW T L p) C ↔ 8 ≤ C 0) ∧ lcL 2 T L p C = adY 8 C 3 (tkV T L (tkE T L p)) 1 := by
  refine ⟨?_, ?_, ?_, ?_, ?_⟩
  · unfold knL; omega
  · unfold bsL; rw [if_neg (by omega), if_neg (by omega), if_neg (by omega), if_pos (by omega)]
  · unfold npL; rw [if_neg (by omega)]
  · unfold fuL; omega
  · unfold lcL; rw [if_neg (by omega), if_neg (by omega), if_neg (by omega), if_neg (by omega), if_neg (by omega), show npL 2 T L p = (tkE T L p) by unfold npL; rw [if_neg (by omega)], if_neg (by omega)]
theorem sd_o {s : Int} {T : Int → Int} {L p : Int} (n : ¬ (s = 1 ∧ tkW T L p = 444301143652)) : sdL s T L p := Or.inl n
theorem ld_o {T : Int → Int} {L p D U : Int} (n : tkW T L p ≠ 491395638644) : ldL T L p D = D ∧ luL T L p U = U := ⟨if_neg (fun z => n z.1), if_neg (fun z => n z.1)⟩
theorem ld_r {T : Int → Int} {L p D U : Int} (e : tkW T L p = 491395638644) : ldL T L p D = (if (tkV T L (tkE T L p)) < 6 ∧ (tkV T L (tkE T L (tkE T L p))) < 6 then orZ D (shlZ 1 (tkV T L (tkE T L p))) else D) ∧ luL T L p U = (if (tkV T L (tkE T L p)) < 6 ∧ (tkV T L (tkE T L (tkE T L p))) < 6 then orZ U (shlZ 1 (tkV T L (tkE T L (tkE T L p)))) else U) := by
  by_cases q : (tkV T L (tkE T L p)) < 6 ∧ (tkV T L (tkE T L (tkE T L p))) < 6
  · exact ⟨(show ldL T L p D = _ from if_pos ⟨e, q⟩).trans (if_pos q).symm, (show luL T L p U = _ from if_pos ⟨e, q⟩).trans (if_pos q).symm⟩
  · exact ⟨(show ldL T L p D = D from if_neg (fun z => q z.2)).trans (if_neg q).symm, (show luL T L p U = U from if_neg (fun z => q z.2)).trans (if_neg q).symm⟩
set_option maxHeartbeats 4000000 in
theorem zp_X6_forgeLine {ad : mA} {dd : Nat} {h : mH} {Q : mQ} {y : Nat} {T G : Int → Int} {L p f q D U : Int} (hk : rdk h y) (HT : rdT h y T L) (HP : rdP h y T L p) (HF : rdF h y f q) (HG : rwF h (y + 1) G) (HB : rdB h y D U) (HA : adK ad)  (pw : wfR G) (kq : ∀ v : Int, (v = 0 ∨ v = 1) → ∀ h1, frm (fun a k => (a = y ∧ (k = 3 ∨ k = 4 ∨ (8 ≤ k ∧ k ≤ 13))) ∨ (y + 1 ≤ a ∧ a < y + 25) ∨ a = y + 26) h h1 → (flO h1 y T L 0 p f q G v (rwF h1 (y + 1) (lcL 0 T L p G) ∧ rdB h1 y (ldL T L p D) (luL T L p U))) → Q (some (.int (zI v))) h1) : mCal TB0 ad (dd + 7) M_X6_forgeLine [.ref y] h 0 0 Q := by
  refine ⟨Nat.le_of_ble_eq_true rfl, ?_⟩
  show mEv TB0 ad M_X6_forgeLine (dd + 7) (0, 0) (mCal TB0 ad (dd + 6)) (fun v h' z => z.1 = 0 ∧ Q v h') 0 [some (.ref y)] [] h (0, 0)
  have FR0 : frm (fun a k => (a = y ∧ (k = 3 ∨ k = 4 ∨ (8 ≤ k ∧ k ≤ 13))) ∨ (y + 1 ≤ a ∧ a < y + 25) ∨ a = y + 26) h h := frm_0 h
  have w1 := HT.1
  have tb := tk_b (T := T) HP.1.1 HP.1.2
  have p0 := HP.1
  refine e_aload_n dX6_forgeLine_0 rfl ?_
  refine e_ldcS dX6_forgeLine_1 tl_6_121 ?_
  refine e_callV [.ref _] dX6_forgeLine_3 tm_6_123 rfl (Nat.le_of_ble_eq_true rfl) (congrArg Prod.fst (rd_s0 hk)) (Nat.le_of_ble_eq_true rfl) (Nat.le_refl _) (Nat.le_refl _) rfl (zp_X6_isWord_down hk HT HP HA ?_)
  refine z_ifb_eq 21 dX6_forgeLine_6 rfl (fun c1 => ?_) (fun c1 => ?_)
  · skip
    refine e_aload_n dX6_forgeLine_21 rfl ?_
    refine e_ldcS dX6_forgeLine_22 tl_6_131 ?_
    refine e_callV [.ref _] dX6_forgeLine_24 tm_6_123 rfl (Nat.le_of_ble_eq_true rfl) (congrArg Prod.fst (rd_s0 hk)) (Nat.le_of_ble_eq_true rfl) (Nat.le_refl _) (Nat.le_refl _) rfl (zp_X6_isWord_up hk HT HP HA ?_)
    refine z_ifb_eq 42 dX6_forgeLine_27 rfl (fun c2 => ?_) (fun c2 => ?_)
    · skip
      refine e_aload_n dX6_forgeLine_42 rfl ?_
      refine e_ldcS dX6_forgeLine_43 tl_6_133 ?_
      refine e_callV [.ref _] dX6_forgeLine_45 tm_6_123 rfl (Nat.le_of_ble_eq_true rfl) (congrArg Prod.fst (rd_s0 hk)) (Nat.le_of_ble_eq_true rfl) (Nat.le_refl _) (Nat.le_refl _) rfl (zp_X6_isWord_cloth hk HT HP HA ?_)
      refine z_ifb_eq 56 dX6_forgeLine_48 rfl (fun c3 => ?_) (fun c3 => ?_)
      · skip
        refine e_aload_n dX6_forgeLine_56 rfl ?_
        refine e_ldcS dX6_forgeLine_57 tl_6_138 ?_
        refine e_callV [.ref _] dX6_forgeLine_59 tm_6_123 rfl (Nat.le_of_ble_eq_true rfl) (congrArg Prod.fst (rd_s0 hk)) (Nat.le_of_ble_eq_true rfl) (Nat.le_refl _) (Nat.le_refl _) rfl (zp_X6_isWord_rivet hk HT HP HA ?_)
        refine z_ifb_eq 72 dX6_forgeLine_62 rfl (fun c4 => ?_) (fun c4 => ?_)
        · skip
          refine e_aload_n dX6_forgeLine_72 rfl ?_
          refine e_callV [] dX6_forgeLine_73 tm_6_143 rfl (Nat.le_of_ble_eq_true rfl) (congrArg Prod.fst (rd_s0 hk)) (Nat.le_of_ble_eq_true rfl) (Nat.le_refl _) (Nat.le_refl _) rfl (zp_X6_refuse hk HP (by omega) (fun  h5 f6 p7 => ?_))
          have k8 := lk_q (frm_s f6) hk
          have H9 := rdT_c f6 (fun a k q => by omega) HT
          have H10 := rdP_c f6 (fun a k q => by omega) HP
          have H11 := rwF_c f6 (fun a k q1 q2 => by omega) HG
          have H12 := rdB_c f6 (fun a k q => by omega) HB
          have FR13 := frm_t FR0 (frm_m (S' := (fun a k => (a = y ∧ (k = 3 ∨ k = 4 ∨ (8 ≤ k ∧ k ≤ 13))) ∨ (y + 1 ≤ a ∧ a < y + 25) ∨ a = y + 26)) f6 (fun a k q => by omega))
          refine z_bret dX6_forgeLine_76 rfl (bZ_01 _) ⟨rfl, ?_⟩
          exact kq _ (Or.inl rfl) _ FR13 (ln_bad (fun z => by unfold knL at z; omega) p7)
        · skip
          refine e_aload_n dX6_forgeLine_65 rfl ?_
          refine e_callV [] dX6_forgeLine_66 tm_6_140 rfl (Nat.le_of_ble_eq_true rfl) (congrArg Prod.fst (rd_s0 hk)) (Nat.le_of_ble_eq_true rfl) (Nat.le_refl _) (Nat.le_refl _) rfl (zp_X6_rivetLine hk HT HP HF HG HB pw (fun v14 p15 h16 f17 p18 => ?_))
          have k19 := lk_q (frm_s f17) hk
          have H20 := rdT_c f17 (fun a k q => by omega) HT
          have FR21 := frm_t FR0 (frm_m (S' := (fun a k => (a = y ∧ (k = 3 ∨ k = 4 ∨ (8 ≤ k ∧ k ≤ 13))) ∨ (y + 1 ≤ a ∧ a < y + 25) ∨ a = y + 26)) f17 (fun a k q => by omega))
          skip
          refine e_goto 76 dX6_forgeLine_69 rfl ?_
          refine z_bret dX6_forgeLine_76 rfl (by omega) ⟨rfl, ?_⟩
          have K := kn_0rivet (T := T) (C := G) (L := L) (p := p) (by omega)
          exact kq _ (by assumption) _ FR21 (ln_of K.1 (sd_o (by omega)) K.2.1 K.2.2.1 K.2.2.2.1 (fun x => ⟨by rw [K.2.2.2.2]; exact x.1, by rw [(ld_r (D := D) (U := U) (by omega)).1, (ld_r (D := D) (U := U) (by omega)).2]; exact x.2⟩) p18)
      · skip
        refine e_aload_n dX6_forgeLine_51 rfl ?_
        refine e_callV [] dX6_forgeLine_52 tm_6_135 rfl (Nat.le_of_ble_eq_true rfl) (congrArg Prod.fst (rd_s0 hk)) (Nat.le_of_ble_eq_true rfl) (Nat.le_refl _) (Nat.le_refl _) rfl (zp_X6_clothLine hk HT HP HF HG HA pw (fun v22 p23 h24 f25 p26 => ?_))
        have k27 := lk_q (frm_s f25) hk
        have H28 := rdT_c f25 (fun a k q => by omega) HT
        have H29 := rdB_c f25 (fun a k q => by omega) HB
        have FR30 := frm_t FR0 (frm_m (S' := (fun a k => (a = y ∧ (k = 3 ∨ k = 4 ∨ (8 ≤ k ∧ k ≤ 13))) ∨ (y + 1 ≤ a ∧ a < y + 25) ∨ a = y + 26)) f25 (fun a k q => by omega))
        skip
        refine z_bret dX6_forgeLine_55 rfl (by omega) ⟨rfl, ?_⟩
        have K := kn_0cloth (T := T) (C := G) (L := L) (p := p) (by omega)
        exact kq _ (by assumption) _ FR30 (ln_of K.1 (sd_o (by omega)) K.2.1 K.2.2.1 K.2.2.2.1 (fun x => ⟨by rw [K.2.2.2.2]; exact x, by rw [(ld_o (D := D) (U := U) (by omega)).1, (ld_o (D := D) (U := U) (by omega)).2]; exact H29⟩) p26)
    · skip
      refine e_aload_n dX6_forgeLine_30 rfl ?_
      refine e_aload_n dX6_forgeLine_31 rfl ?_
      refine e_get (.ref (y + 1)) dX6_forgeLine_32 tf_6_12 (congrArg Prod.fst (rd_s0 hk)) (congrArg va_rf (rd_r0_0 hk)) ?_
      refine e_get (.ref (y + 8)) dX6_forgeLine_35 tf_6_91 (congrArg Prod.fst (rd_s1 hk)) (congrArg va_rf (rd_r1_1 hk)) ?_
      refine e_callV [.ref _] dX6_forgeLine_38 tm_6_127 rfl (Nat.le_of_ble_eq_true rfl) (congrArg Prod.fst (rd_s0 hk)) (Nat.le_of_ble_eq_true rfl) (Nat.le_refl _) (Nat.le_refl _) rfl (zp_X6_bladeLine_1 hk HT HP HF HG HA pw (fun v31 p32 h33 f34 p35 => ?_))
      have k36 := lk_q (frm_s f34) hk
      have H37 := rdT_c f34 (fun a k q => by omega) HT
      have H38 := rdB_c f34 (fun a k q => by omega) HB
      have FR39 := frm_t FR0 (frm_m (S' := (fun a k => (a = y ∧ (k = 3 ∨ k = 4 ∨ (8 ≤ k ∧ k ≤ 13))) ∨ (y + 1 ≤ a ∧ a < y + 25) ∨ a = y + 26)) f34 (fun a k q => by omega))
      skip
      refine z_bret dX6_forgeLine_41 rfl (by omega) ⟨rfl, ?_⟩
      have K := kn_0up (T := T) (C := G) (L := L) (p := p) (by omega)
      exact kq _ (by assumption) _ FR39 (ln_of K.1 (sd_o (by omega)) K.2.1 K.2.2.1 K.2.2.2.1 (fun x => ⟨by rw [K.2.2.2.2]; exact x, by rw [(ld_o (D := D) (U := U) (by omega)).1, (ld_o (D := D) (U := U) (by omega)).2]; exact H38⟩) p35)
  · skip
    refine e_aload_n dX6_forgeLine_9 rfl ?_
    refine e_aload_n dX6_forgeLine_10 rfl ?_
    refine e_get (.ref (y + 1)) dX6_forgeLine_11 tf_6_12 (congrArg Prod.fst (rd_s0 hk)) (congrArg va_rf (rd_r0_0 hk)) ?_
    refine e_get (.ref (y + 2)) dX6_forgeLine_14 tf_6_82 (congrArg Prod.fst (rd_s1 hk)) (congrArg va_rf (rd_r1_0 hk)) ?_
    refine e_callV [.ref _] dX6_forgeLine_17 tm_6_127 rfl (Nat.le_of_ble_eq_true rfl) (congrArg Prod.fst (rd_s0 hk)) (Nat.le_of_ble_eq_true rfl) (Nat.le_refl _) (Nat.le_refl _) rfl (zp_X6_bladeLine_0 hk HT HP HF HG HA pw (fun v40 p41 h42 f43 p44 => ?_))
    have k45 := lk_q (frm_s f43) hk
    have H46 := rdT_c f43 (fun a k q => by omega) HT
    have H47 := rdB_c f43 (fun a k q => by omega) HB
    have FR48 := frm_t FR0 (frm_m (S' := (fun a k => (a = y ∧ (k = 3 ∨ k = 4 ∨ (8 ≤ k ∧ k ≤ 13))) ∨ (y + 1 ≤ a ∧ a < y + 25) ∨ a = y + 26)) f43 (fun a k q => by omega))
    skip
    refine z_bret dX6_forgeLine_20 rfl (by omega) ⟨rfl, ?_⟩
    have K := kn_0down (T := T) (C := G) (L := L) (p := p) (by omega)
    exact kq _ (by assumption) _ FR48 (ln_of K.1 (sd_o (by omega)) K.2.1 K.2.2.1 K.2.2.2.1 (fun x => ⟨by rw [K.2.2.2.2]; exact x, by rw [(ld_o (D := D) (U := U) (by omega)).1, (ld_o (D := D) (U := U) (by omega)).2]; exact H47⟩) p44)
theorem zp_X6_deedLine {ad : mA} {dd : Nat} {h : mH} {Q : mQ} {y : Nat} {T Y : Int → Int} {L p f q : Int} (hk : rdk h y) (HT : rdT h y T L) (HP : rdP h y T L p) (HF : rdF h y f q) (HG : rwY h (y + 17) Y) (HA : adK ad) (py : 0 ≤ Y 0 ∧ Y 0 ≤ 40) (kq : ∀ v : Int, (v = 0 ∨ v = 1) → ∀ h1, frm (fun a k => (a = y ∧ (k = 3 ∨ k = 4 ∨ (8 ≤ k ∧ k ≤ 11))) ∨ (y + 17 ≤ a ∧ a < y + 25) ∨ a = y + 26) h h1 → (flO h1 y T L 1 p f q Y v (rwY h1 (y + 17) (lcL 1 T L p Y))) → Q (some (.int (zI v))) h1) : mCal TB0 ad (dd + 9) M_X6_deedLine [.ref y] h 0 0 Q := by
  by_cases z_rivet : tkW T L p = 491395638644
  · skip
    exact zp_X6_deedLine_rivet hk HT HP HF HG HA py z_rivet (fun v hv h1 fr pp => kq v hv h1 fr (by
      have K := kn_1rivet (T := T) (C := Y) (L := L) (p := p) (z_rivet)
      exact ln_of K.1 (sd_o (by omega)) K.2.1 K.2.2.1 K.2.2.2.1 (fun x => by rw [K.2.2.2.2]; exact x) pp))
  by_cases z_cut : tkW T L p = 6518132
  · skip
    exact zp_X6_deedLine_cut hk HT HP HF HG HA py z_cut (fun v hv h1 fr pp => kq v hv h1 fr (by
      have K := kn_1cut (T := T) (C := Y) (L := L) (p := p) (z_cut)
      exact ln_of K.1 (sd_o (by omega)) K.2.1 K.2.2.1 K.2.2.2.1 (fun x => by rw [K.2.2.2.2]; exact x) pp))
  by_cases z_heat : tkW T L p = 1751474548
  · skip
    exact zp_X6_deedLine_heat hk HT HP HF HG HA py z_heat (fun v hv h1 fr pp => kq v hv h1 fr (by
      have K := kn_1heat (T := T) (C := Y) (L := L) (p := p) (z_heat)
      exact ln_of K.1 (sd_o (by omega)) K.2.1 K.2.2.1 K.2.2.2.1 (fun x => by rw [K.2.2.2.2]; exact x) pp))
  by_cases z_part : tkW T L p = 1885434484
  · skip
    exact zp_X6_deedLine_part hk HT HP HF HG HA py z_part (fun v hv h1 fr pp => kq v hv h1 fr (by
      have K := kn_1part (T := T) (C := Y) (L := L) (p := p) (z_part)
      exact ln_of K.1 (sd_o (by omega)) K.2.1 K.2.2.1 K.2.2.2.1 (fun x => by rw [K.2.2.2.2]; exact x) pp))
  by_cases z_oil : tkW T L p = 7301484
  · skip
    exact zp_X6_deedLine_oil hk HT HP HF HG HA py z_oil (fun v hv h1 fr pp => kq v hv h1 fr (by
      have K := kn_1oil (T := T) (C := Y) (L := L) (p := p) (z_oil)
      exact ln_of K.1 (sd_o (by omega)) K.2.1 K.2.2.1 K.2.2.2.1 (fun x => by rw [K.2.2.2.2]; exact x) pp))
  by_cases z_day : tkW T L p = 6578553
  · skip
    exact zp_X6_deedLine_day hk HT HP HF HG HA py z_day (fun v hv h1 fr pp => kq v hv h1 fr (by
      have K := kn_1day (T := T) (C := Y) (L := L) (p := p) (z_day)
      exact ln_of K.1 (sd_o (by omega)) K.2.1 K.2.2.1 K.2.2.2.1 (fun x => by rw [K.2.2.2.2]; exact x) pp))
  by_cases z_grind : tkW T L p = 444301143652
  · skip
    by_cases y_up : tkW T L (tkE T L p) = 30064
    · skip
      exact zp_X6_deedLine_grind_up hk HT HP HF HG HA py z_grind y_up (fun v hv h1 fr pp => kq v hv h1 fr (by
        have K := kn_1grind (T := T) (C := Y) (L := L) (p := p) (z_grind)
        exact ln_of K.1 (Or.inr (by omega)) K.2.1 K.2.2.1 K.2.2.2.1 (fun x => by rw [K.2.2.2.2]; exact x) pp))
    by_cases y_down : tkW T L (tkE T L p) = 1685026670
    · skip
      exact zp_X6_deedLine_grind_down hk HT HP HF HG HA py z_grind y_down (fun v hv h1 fr pp => kq v hv h1 fr (by
        have K := kn_1grind (T := T) (C := Y) (L := L) (p := p) (z_grind)
        exact ln_of K.1 (Or.inr (by omega)) K.2.1 K.2.2.1 K.2.2.2.1 (fun x => by rw [K.2.2.2.2]; exact x) pp))
    exact zp_X6_deedLine_grind_no hk HT HP HF HG HA py z_grind ⟨y_down, y_up⟩ (fun v hv h1 fr e pp => kq v hv h1 fr (ln_side (kn_1grind (T := T) (C := Y) (L := L) (p := p) z_grind).1 (fun z => by unfold sdL at z; omega) e pp))
  exact zp_X6_deedLine_bad (Y := Y) hk HT HP HF HA ⟨z_rivet, z_heat, z_part, z_cut, z_grind, z_oil, z_day⟩ (fun h1 fr pp => kq 0 (Or.inl rfl) h1 fr (ln_bad (fun z => by unfold knL at z; omega) pp))
theorem zp_X6_clueLine {ad : mA} {dd : Nat} {h : mH} {Q : mQ} {y : Nat} {T Y : Int → Int} {L p f q : Int} (hk : rdk h y) (HT : rdT h y T L) (HP : rdP h y T L p) (HF : rdF h y f q) (HG : rwY h (y + 21) Y) (HA : adK ad) (py : 0 ≤ Y 0 ∧ Y 0 ≤ 8) (kq : ∀ v : Int, (v = 0 ∨ v = 1) → ∀ h1, frm (fun a k => (a = y ∧ (k = 3 ∨ k = 4 ∨ (8 ≤ k ∧ k ≤ 11))) ∨ (y + 17 ≤ a ∧ a < y + 25) ∨ a = y + 26) h h1 → (flO h1 y T L 2 p f q Y v (rwY h1 (y + 21) (lcL 2 T L p Y))) → Q (some (.int (zI v))) h1) : mCal TB0 ad (dd + 8) M_X6_clueLine [.ref y] h 0 0 Q := by
  by_cases z_long : tkW T L p = 1819242087
  · by_cases zn : tkW T L (tkE T L p) = 28271
    · skip
      exact zp_X6_clueLine_long_no hk HT HP HF HG HA py z_long zn (fun v hv h1 fr pp => kq v hv h1 fr (by
        have K := kn_2long_no (T := T) (C := Y) (L := L) (p := p) z_long zn
        exact ln_of K.1 (sd_o (by omega)) K.2.1 K.2.2.1 K.2.2.2.1 (fun x => by rw [K.2.2.2.2]; exact x) pp))
    · skip
      exact zp_X6_clueLine_long_so hk HT HP HF HG HA py z_long zn (fun v hv h1 fr pp => kq v hv h1 fr (by
        have K := kn_2long_so (T := T) (C := Y) (L := L) (p := p) z_long zn
        exact ln_of K.1 (sd_o (by omega)) K.2.1 K.2.2.1 K.2.2.2.1 (fun x => by rw [K.2.2.2.2]; exact x) pp))
  by_cases z_apart : tkW T L p = 418497262196
  · by_cases zn : tkW T L (tkE T L p) = 28271
    · skip
      exact zp_X6_clueLine_apart_no hk HT HP HF HG HA py z_apart zn (fun v hv h1 fr pp => kq v hv h1 fr (by
        have K := kn_2apart_no (T := T) (C := Y) (L := L) (p := p) z_apart zn
        exact ln_of K.1 (sd_o (by omega)) K.2.1 K.2.2.1 K.2.2.2.1 (fun x => by rw [K.2.2.2.2]; exact x) pp))
    · skip
      exact zp_X6_clueLine_apart_so hk HT HP HF HG HA py z_apart zn (fun v hv h1 fr pp => kq v hv h1 fr (by
        have K := kn_2apart_so (T := T) (C := Y) (L := L) (p := p) z_apart zn
        exact ln_of K.1 (sd_o (by omega)) K.2.1 K.2.2.1 K.2.2.2.1 (fun x => by rw [K.2.2.2.2]; exact x) pp))
  by_cases z_rough : tkW T L p = 491496236904
  · by_cases zn : tkW T L (tkE T L p) = 28271
    · skip
      exact zp_X6_clueLine_rough_no hk HT HP HF HG HA py z_rough zn (fun v hv h1 fr pp => kq v hv h1 fr (by
        have K := kn_2rough_no (T := T) (C := Y) (L := L) (p := p) z_rough zn
        exact ln_of K.1 (sd_o (by omega)) K.2.1 K.2.2.1 K.2.2.2.1 (fun x => by rw [K.2.2.2.2]; exact x) pp))
    · skip
      exact zp_X6_clueLine_rough_so hk HT HP HF HG HA py z_rough zn (fun v hv h1 fr pp => kq v hv h1 fr (by
        have K := kn_2rough_so (T := T) (C := Y) (L := L) (p := p) z_rough zn
        exact ln_of K.1 (sd_o (by omega)) K.2.1 K.2.2.1 K.2.2.2.1 (fun x => by rw [K.2.2.2.2]; exact x) pp))
  by_cases z_left : tkW T L p = 1818584692
  · by_cases zn : tkW T L (tkE T L p) = 28271
    · skip
      exact zp_X6_clueLine_left_no hk HT HP HF HG HA py z_left zn (fun v hv h1 fr pp => kq v hv h1 fr (by
        have K := kn_2left_no (T := T) (C := Y) (L := L) (p := p) z_left zn
        exact ln_of K.1 (sd_o (by omega)) K.2.1 K.2.2.1 K.2.2.2.1 (fun x => by rw [K.2.2.2.2]; exact x) pp))
    · skip
      exact zp_X6_clueLine_left_so hk HT HP HF HG HA py z_left zn (fun v hv h1 fr pp => kq v hv h1 fr (by
        have K := kn_2left_so (T := T) (C := Y) (L := L) (p := p) z_left zn
        exact ln_of K.1 (sd_o (by omega)) K.2.1 K.2.2.1 K.2.2.2.1 (fun x => by rw [K.2.2.2.2]; exact x) pp))
  exact zp_X6_clueLine_bad (Y := Y) hk HT HP HF HA ⟨z_long, z_apart, z_rough, z_left⟩ (fun h1 fr pp => kq 0 (Or.inl rfl) h1 fr (ln_bad (fun z => by unfold knL at z; omega) pp))
