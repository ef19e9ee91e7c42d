/-! SEASON: rivet, heat, part, oil -/
theorem dX7_rivetThem_0 : decode cX7_rivetThem 0 = .ok (.aload_n 0, 1) := by decide +kernel
theorem dX7_rivetThem_1 : decode cX7_rivetThem 1 = .ok (.getfield 12, 3) := by decide +kernel
theorem dX7_rivetThem_4 : decode cX7_rivetThem 4 = .ok (.getfield 75, 3) := by decide +kernel
theorem dX7_rivetThem_7 : decode cX7_rivetThem 7 = .ok (.iload_n 1, 1) := by decide +kernel
theorem dX7_rivetThem_8 : decode cX7_rivetThem 8 = .ok (.invokevirtual 121, 3) := by decide +kernel
theorem dX7_rivetThem_11 : decode cX7_rivetThem 11 = .ok (.ifCond .eq 49, 3) := by decide +kernel
theorem dX7_rivetThem_14 : decode cX7_rivetThem 14 = .ok (.aload_n 0, 1) := by decide +kernel
theorem dX7_rivetThem_15 : decode cX7_rivetThem 15 = .ok (.getfield 12, 3) := by decide +kernel
theorem dX7_rivetThem_18 : decode cX7_rivetThem 18 = .ok (.getfield 90, 3) := by decide +kernel
theorem dX7_rivetThem_21 : decode cX7_rivetThem 21 = .ok (.iload_n 2, 1) := by decide +kernel
theorem dX7_rivetThem_22 : decode cX7_rivetThem 22 = .ok (.invokevirtual 121, 3) := by decide +kernel
theorem dX7_rivetThem_25 : decode cX7_rivetThem 25 = .ok (.ifCond .eq 35, 3) := by decide +kernel
theorem dX7_rivetThem_28 : decode cX7_rivetThem 28 = .ok (.aload_n 0, 1) := by decide +kernel
theorem dX7_rivetThem_29 : decode cX7_rivetThem 29 = .ok (.getfield 12, 3) := by decide +kernel
theorem dX7_rivetThem_32 : decode cX7_rivetThem 32 = .ok (.getfield 75, 3) := by decide +kernel
theorem dX7_rivetThem_35 : decode cX7_rivetThem 35 = .ok (.getfield 124, 3) := by decide +kernel
theorem dX7_rivetThem_38 : decode cX7_rivetThem 38 = .ok (.iload_n 1, 1) := by decide +kernel
theorem dX7_rivetThem_39 : decode cX7_rivetThem 39 = .ok (.iaload, 1) := by decide +kernel
theorem dX7_rivetThem_40 : decode cX7_rivetThem 40 = .ok (.iconst (-1), 1) := by decide +kernel
theorem dX7_rivetThem_41 : decode cX7_rivetThem 41 = .ok (.if_icmp .ne 19, 3) := by decide +kernel
theorem dX7_rivetThem_44 : decode cX7_rivetThem 44 = .ok (.aload_n 0, 1) := by decide +kernel
theorem dX7_rivetThem_45 : decode cX7_rivetThem 45 = .ok (.getfield 12, 3) := by decide +kernel
theorem dX7_rivetThem_48 : decode cX7_rivetThem 48 = .ok (.getfield 90, 3) := by decide +kernel
theorem dX7_rivetThem_51 : decode cX7_rivetThem 51 = .ok (.getfield 124, 3) := by decide +kernel
theorem dX7_rivetThem_54 : decode cX7_rivetThem 54 = .ok (.iload_n 2, 1) := by decide +kernel
theorem dX7_rivetThem_55 : decode cX7_rivetThem 55 = .ok (.iaload, 1) := by decide +kernel
theorem dX7_rivetThem_56 : decode cX7_rivetThem 56 = .ok (.iconst (-1), 1) := by decide +kernel
theorem dX7_rivetThem_57 : decode cX7_rivetThem 57 = .ok (.if_icmp .eq 5, 3) := by decide +kernel
theorem dX7_rivetThem_60 : decode cX7_rivetThem 60 = .ok (.iconst 0, 1) := by decide +kernel
theorem dX7_rivetThem_61 : decode cX7_rivetThem 61 = .ok (.ireturn, 1) := by decide +kernel
theorem dX7_rivetThem_62 : decode cX7_rivetThem 62 = .ok (.aload_n 0, 1) := by decide +kernel
theorem dX7_rivetThem_63 : decode cX7_rivetThem 63 = .ok (.getfield 12, 3) := by decide +kernel
theorem dX7_rivetThem_66 : decode cX7_rivetThem 66 = .ok (.iload_n 1, 1) := by decide +kernel
theorem dX7_rivetThem_67 : decode cX7_rivetThem 67 = .ok (.iload_n 2, 1) := by decide +kernel
theorem dX7_rivetThem_68 : decode cX7_rivetThem 68 = .ok (.invokevirtual 127, 3) := by decide +kernel
theorem dX7_rivetThem_71 : decode cX7_rivetThem 71 = .ok (.iconst 1, 1) := by decide +kernel
theorem dX7_rivetThem_72 : decode cX7_rivetThem 72 = .ok (.ireturn, 1) := by decide +kernel
theorem dX7_heatHim_0 : decode cX7_heatHim 0 = .ok (.aload_n 0, 1) := by decide +kernel
theorem dX7_heatHim_1 : decode cX7_heatHim 1 = .ok (.getfield 12, 3) := by decide +kernel
theorem dX7_heatHim_4 : decode cX7_heatHim 4 = .ok (.iload_n 1, 1) := by decide +kernel
theorem dX7_heatHim_5 : decode cX7_heatHim 5 = .ok (.invokevirtual 130, 3) := by decide +kernel
theorem dX7_heatHim_8 : decode cX7_heatHim 8 = .ok (.iconst (-1), 1) := by decide +kernel
theorem dX7_heatHim_9 : decode cX7_heatHim 9 = .ok (.if_icmp .eq 11, 3) := by decide +kernel
theorem dX7_heatHim_12 : decode cX7_heatHim 12 = .ok (.aload_n 0, 1) := by decide +kernel
theorem dX7_heatHim_13 : decode cX7_heatHim 13 = .ok (.iload_n 1, 1) := by decide +kernel
theorem dX7_heatHim_14 : decode cX7_heatHim 14 = .ok (.invokevirtual 133, 3) := by decide +kernel
theorem dX7_heatHim_17 : decode cX7_heatHim 17 = .ok (.ifCond .eq 5, 3) := by decide +kernel
theorem dX7_heatHim_20 : decode cX7_heatHim 20 = .ok (.iconst 0, 1) := by decide +kernel
theorem dX7_heatHim_21 : decode cX7_heatHim 21 = .ok (.ireturn, 1) := by decide +kernel
theorem dX7_heatHim_22 : decode cX7_heatHim 22 = .ok (.aload_n 0, 1) := by decide +kernel
theorem dX7_heatHim_23 : decode cX7_heatHim 23 = .ok (.dup, 1) := by decide +kernel
theorem dX7_heatHim_24 : decode cX7_heatHim 24 = .ok (.getfield 28, 3) := by decide +kernel
theorem dX7_heatHim_27 : decode cX7_heatHim 27 = .ok (.iconst 1, 1) := by decide +kernel
theorem dX7_heatHim_28 : decode cX7_heatHim 28 = .ok (.iload_n 1, 1) := by decide +kernel
theorem dX7_heatHim_29 : decode cX7_heatHim 29 = .ok (.ishl, 1) := by decide +kernel
theorem dX7_heatHim_30 : decode cX7_heatHim 30 = .ok (.ior, 1) := by decide +kernel
theorem dX7_heatHim_31 : decode cX7_heatHim 31 = .ok (.putfield 28, 3) := by decide +kernel
theorem dX7_heatHim_34 : decode cX7_heatHim 34 = .ok (.iconst 1, 1) := by decide +kernel
theorem dX7_heatHim_35 : decode cX7_heatHim 35 = .ok (.ireturn, 1) := by decide +kernel
theorem dX7_partThem_0 : decode cX7_partThem 0 = .ok (.aload_n 0, 1) := by decide +kernel
theorem dX7_partThem_1 : decode cX7_partThem 1 = .ok (.getfield 12, 3) := by decide +kernel
theorem dX7_partThem_4 : decode cX7_partThem 4 = .ok (.iload_n 1, 1) := by decide +kernel
theorem dX7_partThem_5 : decode cX7_partThem 5 = .ok (.invokevirtual 130, 3) := by decide +kernel
theorem dX7_partThem_8 : decode cX7_partThem 8 = .ok (.iconst (-1), 1) := by decide +kernel
theorem dX7_partThem_9 : decode cX7_partThem 9 = .ok (.if_icmp .eq 11, 3) := by decide +kernel
theorem dX7_partThem_12 : decode cX7_partThem 12 = .ok (.aload_n 0, 1) := by decide +kernel
theorem dX7_partThem_13 : decode cX7_partThem 13 = .ok (.iload_n 1, 1) := by decide +kernel
theorem dX7_partThem_14 : decode cX7_partThem 14 = .ok (.invokevirtual 133, 3) := by decide +kernel
theorem dX7_partThem_17 : decode cX7_partThem 17 = .ok (.ifCond .ne 5, 3) := by decide +kernel
theorem dX7_partThem_20 : decode cX7_partThem 20 = .ok (.iconst 0, 1) := by decide +kernel
theorem dX7_partThem_21 : decode cX7_partThem 21 = .ok (.ireturn, 1) := by decide +kernel
theorem dX7_partThem_22 : decode cX7_partThem 22 = .ok (.aload_n 0, 1) := by decide +kernel
theorem dX7_partThem_23 : decode cX7_partThem 23 = .ok (.getfield 12, 3) := by decide +kernel
theorem dX7_partThem_26 : decode cX7_partThem 26 = .ok (.iload_n 1, 1) := by decide +kernel
theorem dX7_partThem_27 : decode cX7_partThem 27 = .ok (.invokevirtual 136, 3) := by decide +kernel
theorem dX7_partThem_30 : decode cX7_partThem 30 = .ok (.iconst 1, 1) := by decide +kernel
theorem dX7_partThem_31 : decode cX7_partThem 31 = .ok (.ireturn, 1) := by decide +kernel
theorem dX7_oilThem_0 : decode cX7_oilThem 0 = .ok (.aload_n 0, 1) := by decide +kernel
theorem dX7_oilThem_1 : decode cX7_oilThem 1 = .ok (.getfield 12, 3) := by decide +kernel
theorem dX7_oilThem_4 : decode cX7_oilThem 4 = .ok (.getfield 75, 3) := by decide +kernel
theorem dX7_oilThem_7 : decode cX7_oilThem 7 = .ok (.iload_n 1, 1) := by decide +kernel
theorem dX7_oilThem_8 : decode cX7_oilThem 8 = .ok (.invokevirtual 121, 3) := by decide +kernel
theorem dX7_oilThem_11 : decode cX7_oilThem 11 = .ok (.ifCond .ne 5, 3) := by decide +kernel
theorem dX7_oilThem_14 : decode cX7_oilThem 14 = .ok (.iconst 0, 1) := by decide +kernel
theorem dX7_oilThem_15 : decode cX7_oilThem 15 = .ok (.ireturn, 1) := by decide +kernel
theorem dX7_oilThem_16 : decode cX7_oilThem 16 = .ok (.aload_n 0, 1) := by decide +kernel
theorem dX7_oilThem_17 : decode cX7_oilThem 17 = .ok (.dup, 1) := by decide +kernel
theorem dX7_oilThem_18 : decode cX7_oilThem 18 = .ok (.getfield 31, 3) := by decide +kernel
theorem dX7_oilThem_21 : decode cX7_oilThem 21 = .ok (.iconst 1, 1) := by decide +kernel
theorem dX7_oilThem_22 : decode cX7_oilThem 22 = .ok (.iload_n 1, 1) := by decide +kernel
theorem dX7_oilThem_23 : decode cX7_oilThem 23 = .ok (.ishl, 1) := by decide +kernel
theorem dX7_oilThem_24 : decode cX7_oilThem 24 = .ok (.ior, 1) := by decide +kernel
theorem dX7_oilThem_25 : decode cX7_oilThem 25 = .ok (.putfield 31, 3) := by decide +kernel
theorem dX7_oilThem_28 : decode cX7_oilThem 28 = .ok (.aload_n 0, 1) := by decide +kernel
theorem dX7_oilThem_29 : decode cX7_oilThem 29 = .ok (.getfield 12, 3) := by decide +kernel
theorem dX7_oilThem_32 : decode cX7_oilThem 32 = .ok (.iload_n 1, 1) := by decide +kernel
theorem dX7_oilThem_33 : decode cX7_oilThem 33 = .ok (.invokevirtual 130, 3) := by decide +kernel
theorem dX7_oilThem_36 : decode cX7_oilThem 36 = .ok (.istore_n 2, 1) := by decide +kernel
theorem dX7_oilThem_37 : decode cX7_oilThem 37 = .ok (.iload_n 2, 1) := by decide +kernel
theorem dX7_oilThem_38 : decode cX7_oilThem 38 = .ok (.iconst (-1), 1) := by decide +kernel
theorem dX7_oilThem_39 : decode cX7_oilThem 39 = .ok (.if_icmp .eq 15, 3) := by decide +kernel
theorem dX7_oilThem_42 : decode cX7_oilThem 42 = .ok (.aload_n 0, 1) := by decide +kernel
theorem dX7_oilThem_43 : decode cX7_oilThem 43 = .ok (.dup, 1) := by decide +kernel
theorem dX7_oilThem_44 : decode cX7_oilThem 44 = .ok (.getfield 34, 3) := by decide +kernel
theorem dX7_oilThem_47 : decode cX7_oilThem 47 = .ok (.iconst 1, 1) := by decide +kernel
theorem dX7_oilThem_48 : decode cX7_oilThem 48 = .ok (.iload_n 2, 1) := by decide +kernel
theorem dX7_oilThem_49 : decode cX7_oilThem 49 = .ok (.ishl, 1) := by decide +kernel
theorem dX7_oilThem_50 : decode cX7_oilThem 50 = .ok (.ior, 1) := by decide +kernel
theorem dX7_oilThem_51 : decode cX7_oilThem 51 = .ok (.putfield 34, 3) := by decide +kernel
theorem dX7_oilThem_54 : decode cX7_oilThem 54 = .ok (.iconst 1, 1) := by decide +kernel
theorem dX7_oilThem_55 : decode cX7_oilThem 55 = .ok (.ireturn, 1) := by decide +kernel
theorem dX7_isHot_0 : decode cX7_isHot 0 = .ok (.iload_n 1, 1) := by decide +kernel
theorem dX7_isHot_1 : decode cX7_isHot 1 = .ok (.ifCond .lt 25, 3) := by decide +kernel
theorem dX7_isHot_4 : decode cX7_isHot 4 = .ok (.iload_n 1, 1) := by decide +kernel
theorem dX7_isHot_5 : decode cX7_isHot 5 = .ok (.bipush 6, 2) := by decide +kernel
theorem dX7_isHot_7 : decode cX7_isHot 7 = .ok (.if_icmp .ge 19, 3) := by decide +kernel
theorem dX7_isHot_10 : decode cX7_isHot 10 = .ok (.aload_n 0, 1) := by decide +kernel
theorem dX7_isHot_11 : decode cX7_isHot 11 = .ok (.getfield 28, 3) := by decide +kernel
theorem dX7_isHot_14 : decode cX7_isHot 14 = .ok (.iload_n 1, 1) := by decide +kernel
theorem dX7_isHot_15 : decode cX7_isHot 15 = .ok (.ishr, 1) := by decide +kernel
theorem dX7_isHot_16 : decode cX7_isHot 16 = .ok (.iconst 1, 1) := by decide +kernel
theorem dX7_isHot_17 : decode cX7_isHot 17 = .ok (.iand, 1) := by decide +kernel
theorem dX7_isHot_18 : decode cX7_isHot 18 = .ok (.iconst 1, 1) := by decide +kernel
theorem dX7_isHot_19 : decode cX7_isHot 19 = .ok (.if_icmp .ne 7, 3) := by decide +kernel
theorem dX7_isHot_22 : decode cX7_isHot 22 = .ok (.iconst 1, 1) := by decide +kernel
theorem dX7_isHot_23 : decode cX7_isHot 23 = .ok (.goto 4, 3) := by decide +kernel
theorem dX7_isHot_26 : decode cX7_isHot 26 = .ok (.iconst 0, 1) := by decide +kernel
theorem dX7_isHot_27 : decode cX7_isHot 27 = .ok (.ireturn, 1) := by decide +kernel
theorem tf_7_75 : tFld TB0 7 75 = some (2, 0) := rfl
theorem tf_7_90 : tFld TB0 7 90 = some (2, 1) := rfl
theorem tf_7_124 : tFld TB0 7 124 = some (0, 4) := rfl
set_option maxRecDepth 20000 in
theorem tm_7_121 : tMet TB0 7 121 = some (0, M_X0_has) := rfl
set_option maxRecDepth 20000 in
theorem tm_7_127 : tMet TB0 7 127 = some (0, M_X2_join) := rfl
set_option maxRecDepth 20000 in
theorem tm_7_130 : tMet TB0 7 130 = some (0, M_X2_upOf) := rfl
set_option maxRecDepth 20000 in
theorem tm_7_133 : tMet TB0 7 133 = some (0, M_X7_isHot) := rfl
set_option maxRecDepth 20000 in
theorem tm_7_136 : tMet TB0 7 136 = some (0, M_X2_loosenDown) := rfl
abbrev gkP (g q : Int → Int) (s k : Int) : Prop := (s = 0 ∧ cGrD g q k) ∨ (s = 1 ∧ cGrU g q k)
def rvG (g : Int → Int) (d u : Int) : Int → Int := if cRiv g d u then jnG g d u else g
def paG (g q : Int → Int) (d : Int) : Int → Int := if cPar g q d then ptG g d else g
def cuG (g q : Int → Int) (d c : Int) : Int → Int := if cCut g q d c then ctG g d else g
def gkG (g q : Int → Int) (s k : Int) : Int → Int := if gkP g q s k then (if s = 0 then dgG g k else ugG g k) else g
def dyG (g q : Int → Int) : Int → Int := if q 0 < 99 then rstG g (orZ (q 6) (q 4)) (orZ (q 7) (q 5)) else g
def heQ (g q : Int → Int) (d : Int) : Int → Int := if cHea g q d then heaQ q d else q
def cuQ (g q : Int → Int) (d c : Int) : Int → Int := if cCut g q d c then cutQ g q d c else q
def oiQ (g q : Int → Int) (d : Int) : Int → Int := if 0 ≤ d ∧ d < nd g then oilQ g q d else q
def dyQ (q : Int → Int) : Int → Int := if q 0 < 99 then dayQ q else q
abbrev okZ (g q : Int → Int) (s a b : Int) : Prop := (s = 0 ∧ cRiv g a b) ∨ (s = 1 ∧ cHea g q a) ∨ (s = 2 ∧ cPar g q a) ∨ (s = 3 ∧ cCut g q a b) ∨ (s = 4 ∧ gkP g q a b) ∨ (s = 5 ∧ (0 ≤ a ∧ a < nd g)) ∨ (s = 6 ∧ q 0 < 99)
def nG (g q : Int → Int) (s a b : Int) : Int → Int := if s = 0 then rvG g a b else if s = 2 then paG g q a else if s = 3 then cuG g q a b else if s = 4 then gkG g q a b else if s = 6 then dyG g q else g
def nQ (g q : Int → Int) (s a b : Int) : Int → Int := if s = 1 then heQ g q a else if s = 3 then cuQ g q a b else if s = 5 then oiQ g q a else if s = 6 then dyQ q else q
theorem wfQ_1 {q : Int → Int} {n : Int} (w : wfQ q n) (h : n < 1000) : wfQ q (n + 1) := by
  have := wfQ_e w
  unfold wfQ; omega
theorem wfQ_hea {q : Int → Int} {n : Int} (w : wfQ q n) (h : n < 1000) {d : Int} (hd : d < 6) : wfQ (heaQ q d) (n + 1) := by
  have := wfQ_e w
  have z := or_b (x := q 3) (k := d) (by omega) hd
  show (0 ≤ q 0 ∧ q 0 ≤ 99) ∧ (0 ≤ q 1 ∧ q 1 ≤ 20 * (n + 1)) ∧ (0 ≤ q 2 ∧ q 2 ≤ n + 1) ∧ (0 ≤ orZ (q 3) (b1 d) ∧ orZ (q 3) (b1 d) < 64) ∧ (0 ≤ q 4 ∧ q 4 < 64) ∧ (0 ≤ q 5 ∧ q 5 < 64) ∧ (0 ≤ q 6 ∧ q 6 < 64) ∧ (0 ≤ q 7 ∧ q 7 < 64) ∧ n + 1 ≤ 1000
  omega
theorem wfQ_cut {g q : Int → Int} {n : Int} (w : wfQ q n) (h : n < 1000) {d c : Int} (hd : d < 6) (hu : dm g d < 6) (hp : 0 ≤ pr g c ∧ pr g c ≤ 20) : wfQ (cutQ g q d c) (n + 1) := by
  have := wfQ_e w
  have z := or_b (x := q 6) (k := d) (by omega) hd
  have z2 := or_b (x := q 7) (k := dm g d) (by omega) hu
  show (0 ≤ q 0 ∧ q 0 ≤ 99) ∧ (0 ≤ q 1 + pr g c ∧ q 1 + pr g c ≤ 20 * (n + 1)) ∧ (0 ≤ q 2 + 1 ∧ q 2 + 1 ≤ n + 1) ∧ (0 ≤ q 3 ∧ q 3 < 64) ∧ (0 ≤ q 4 ∧ q 4 < 64) ∧ (0 ≤ q 5 ∧ q 5 < 64) ∧ (0 ≤ orZ (q 6) (b1 d) ∧ orZ (q 6) (b1 d) < 64) ∧ (0 ≤ orZ (q 7) (b1 (dm g d)) ∧ orZ (q 7) (b1 (dm g d)) < 64) ∧ n + 1 ≤ 1000
  omega
theorem wfQ_oil1 {q : Int → Int} {n : Int} (w : wfQ q n) (h : n < 1000) {d : Int} (hd : d < 6) : wfQ (setG q 4 (orZ (q 4) (b1 d))) (n + 1) := by
  have := wfQ_e w
  have z := or_b (x := q 4) (k := d) (by omega) hd
  show (0 ≤ q 0 ∧ q 0 ≤ 99) ∧ (0 ≤ q 1 ∧ q 1 ≤ 20 * (n + 1)) ∧ (0 ≤ q 2 ∧ q 2 ≤ n + 1) ∧ (0 ≤ q 3 ∧ q 3 < 64) ∧ (0 ≤ orZ (q 4) (b1 d) ∧ orZ (q 4) (b1 d) < 64) ∧ (0 ≤ q 5 ∧ q 5 < 64) ∧ (0 ≤ q 6 ∧ q 6 < 64) ∧ (0 ≤ q 7 ∧ q 7 < 64) ∧ n + 1 ≤ 1000
  omega
theorem wfQ_oil2 {q : Int → Int} {n : Int} (w : wfQ q n) (h : n < 1000) {d u : Int} (hd : d < 6) (hu : u < 6) : wfQ (setG (setG q 4 (orZ (q 4) (b1 d))) 5 (orZ (q 5) (b1 u))) (n + 1) := by
  have := wfQ_e w
  have z := or_b (x := q 4) (k := d) (by omega) hd
  have z2 := or_b (x := q 5) (k := u) (by omega) hu
  show (0 ≤ q 0 ∧ q 0 ≤ 99) ∧ (0 ≤ q 1 ∧ q 1 ≤ 20 * (n + 1)) ∧ (0 ≤ q 2 ∧ q 2 ≤ n + 1) ∧ (0 ≤ q 3 ∧ q 3 < 64) ∧ (0 ≤ orZ (q 4) (b1 d) ∧ orZ (q 4) (b1 d) < 64) ∧ (0 ≤ orZ (q 5) (b1 u) ∧ orZ (q 5) (b1 u) < 64) ∧ (0 ≤ q 6 ∧ q 6 < 64) ∧ (0 ≤ q 7 ∧ q 7 < 64) ∧ n + 1 ≤ 1000
  omega
theorem wfQ_day {q : Int → Int} {n : Int} (w : wfQ q n) (h : n < 1000) (h0 : q 0 < 99) : wfQ (dayQ q) (n + 1) := by
  have := wfQ_e w
  show (0 ≤ q 0 + 1 ∧ q 0 + 1 ≤ 99) ∧ (0 ≤ q 1 ∧ q 1 ≤ 20 * (n + 1)) ∧ (0 ≤ q 2 ∧ q 2 ≤ n + 1) ∧ (0 ≤ (0 : Int) ∧ (0 : Int) < 64) ∧ (0 ≤ (0 : Int) ∧ (0 : Int) < 64) ∧ (0 ≤ (0 : Int) ∧ (0 : Int) < 64) ∧ (0 ≤ (0 : Int) ∧ (0 : Int) < 64) ∧ (0 ≤ (0 : Int) ∧ (0 : Int) < 64) ∧ n + 1 ≤ 1000
  omega
theorem wfQ_0 : wfQ (fun _ => 0) 0 := by
  show (0 ≤ (0 : Int) ∧ (0 : Int) ≤ 99) ∧ (0 ≤ (0 : Int) ∧ (0 : Int) ≤ 20 * 0) ∧ (0 ≤ (0 : Int) ∧ (0 : Int) ≤ 0) ∧ (0 ≤ (0 : Int) ∧ (0 : Int) < 64) ∧ (0 ≤ (0 : Int) ∧ (0 : Int) < 64) ∧ (0 ≤ (0 : Int) ∧ (0 : Int) < 64) ∧ (0 ≤ (0 : Int) ∧ (0 : Int) < 64) ∧ (0 ≤ (0 : Int) ∧ (0 : Int) < 64) ∧ (0 : Int) ≤ 1000
  omega
theorem isS_1 {h : mH} {s : Nat} {q : Int → Int} {n : Int} (H : isS h s q n) (hn : n < 1000) : isS h s q (n + 1) := ⟨wfQ_1 H.1 hn, H.2⟩
set_option maxHeartbeats 400000 in
theorem zp_X7_isHot {ad : mA} {dd : Nat} {h : mH} {Q : mQ} {s : Nat} {q : Int → Int} {n : Int} (hk : sek h s) (HQ : isS h s q n)  (d : Int) (d_r : -2147483648 ≤ d ∧ d < 2147483648)  (kq : Q (some (.int (zI (bZ ((0 ≤ d ∧ d < 6) ∧ hasZ (q 3) d))))) h) : mCal TB0 ad (dd + 1) M_X7_isHot [.ref s, .int (zI d)] h 0 0 Q := by
  refine ⟨Nat.le_of_ble_eq_true rfl, ?_⟩
  show mEv TB0 ad M_X7_isHot (dd + 1) (0, 0) (mCal TB0 ad (dd + 0)) (fun v h' z => z.1 = 0 ∧ Q v h') 0 [some (.ref s), some (.int (zI d))] [] h (0, 0)
  have wq := wfQ_e HQ.1
  refine e_iload_n dX7_isHot_0 rfl ?_
  refine z_if_lt 26 dX7_isHot_1 rfl ⟨by omega, by omega⟩ (fun c1 => ?_) (fun c1 => ?_)
  · skip
    refine z_iconst (0) dX7_isHot_26 rfl ?_
    refine z_bret dX7_isHot_27 rfl (Or.inl rfl) ⟨rfl, ?_⟩
    refine z_q0 kq ?_
    first | exact ⟨by omega, hasZ_i.mp (by assumption)⟩ | (rintro ⟨q1, q2⟩; first | omega | exact absurd (hasZ_i.mpr q2) (by assumption))
  · skip
    refine e_iload_n dX7_isHot_4 rfl ?_
    refine z_bipush (6) dX7_isHot_5 rfl ?_
    refine z_icmp_ge 26 dX7_isHot_7 rfl ⟨by omega, by omega⟩ ⟨by omega, by omega⟩ (fun c2 => ?_) (fun c2 => ?_)
    · skip
      refine z_iconst (0) dX7_isHot_26 rfl ?_
      refine z_bret dX7_isHot_27 rfl (Or.inl rfl) ⟨rfl, ?_⟩
      refine z_q0 kq ?_
      first | exact ⟨by omega, hasZ_i.mp (by assumption)⟩ | (rintro ⟨q1, q2⟩; first | omega | exact absurd (hasZ_i.mpr q2) (by assumption))
    · skip
      refine e_aload_n dX7_isHot_10 rfl ?_
      refine z_get (q 3) dX7_isHot_11 tf_7_28 (congrArg Prod.fst (se_s0 hk)) (Or.inl rfl) HQ.2.2.2.2.1 ?_
      have y3 := wfQ_e HQ.1
      refine e_iload_n dX7_isHot_14 rfl ?_
      refine z_ishr dX7_isHot_15 (by omega) (by omega) (by omega) (by omega) ?_
      have y4 := shrZ_b (q 3) d
      refine z_iconst (1) dX7_isHot_16 rfl ?_
      refine z_iand dX7_isHot_17 (by omega) (by omega) (by omega) (by omega) ?_
      have y5 := andZ_b (shrZ (q 3) d) 1
      refine z_iconst (1) dX7_isHot_18 rfl ?_
      refine z_icmp_ne 26 dX7_isHot_19 rfl ⟨by omega, by omega⟩ ⟨by omega, by omega⟩ (fun c6 => ?_) (fun c6 => ?_)
      · skip
        refine z_iconst (0) dX7_isHot_26 rfl ?_
        refine z_bret dX7_isHot_27 rfl (Or.inl rfl) ⟨rfl, ?_⟩
        refine z_q0 kq ?_
        first | exact ⟨by omega, hasZ_i.mp (by assumption)⟩ | (rintro ⟨q1, q2⟩; first | omega | exact absurd (hasZ_i.mpr q2) (by assumption))
      · skip
        refine z_iconst (1) dX7_isHot_22 rfl ?_
        refine e_goto 27 dX7_isHot_23 rfl ?_
        refine z_bret dX7_isHot_27 rfl (Or.inr rfl) ⟨rfl, ?_⟩
        refine z_q1 kq ?_
        first | exact ⟨by omega, hasZ_i.mp (by assumption)⟩ | (rintro ⟨q1, q2⟩; first | omega | exact absurd (hasZ_i.mpr q2) (by assumption))
set_option maxHeartbeats 400000 in
theorem zp_X7_rivetThem {ad : mA} {dd : Nat} {h : mH} {Q : mQ} {s : Nat} {g : Int → Int} (hk : sek h s) (HF : isF h (s + 1) g)  (d : Int) (d_r : -2147483648 ≤ d ∧ d < 2147483648) (u : Int) (u_r : -2147483648 ≤ u ∧ u < 2147483648)  (kq : ∀ h1, frm (fun a k => a = s + 7 ∨ a = s + 13) h h1 → (isF h1 (s + 1) (rvG g d u)) → Q (some (.int (zI (bZ (cRiv g d u))))) h1) : mCal TB0 ad (dd + 3) M_X7_rivetThem [.ref s, .int (zI d), .int (zI u)] h 0 0 Q := by
  refine ⟨Nat.le_of_ble_eq_true rfl, ?_⟩
  show mEv TB0 ad M_X7_rivetThem (dd + 3) (0, 0) (mCal TB0 ad (dd + 2)) (fun v h' z => z.1 = 0 ∧ Q v h') 0 [some (.ref s), some (.int (zI d)), some (.int (zI u))] [] h (0, 0)
  have FR0 : frm (fun a k => a = s + 7 ∨ a = s + 13) h h := frm_0 h
  have w1 := isF_n HF
  have w2 : rI h (s + 2) 5 = nd g := isF_nd HF
  have w3 : rI h (s + 8) 5 = nu g := isF_nu HF
  have W := isF_w HF
  refine e_aload_n dX7_rivetThem_0 rfl ?_
  refine e_get (.ref (s + 1)) dX7_rivetThem_1 tf_7_12 (congrArg Prod.fst (se_s0 hk)) (congrArg va_rf (se_r0_0 hk)) ?_
  refine e_get (.ref (s + 2)) dX7_rivetThem_4 tf_7_75 (congrArg Prod.fst (se_s1 hk)) (congrArg va_rf (se_r1_0 hk)) ?_
  refine e_iload_n dX7_rivetThem_7 rfl ?_
  refine e_callV [.int _] dX7_rivetThem_8 tm_7_121 rfl (Nat.le_of_ble_eq_true rfl) (congrArg Prod.fst (se_s2 hk)) (Nat.le_of_ble_eq_true rfl) (Nat.le_refl _) (Nat.le_refl _) rfl (zp_X0_has (se_bl2 hk) d ⟨by omega, by omega⟩ ?_)
  refine z_ifb_eq 60 dX7_rivetThem_11 rfl (fun c1 => ?_) (fun c1 => ?_)
  · skip
    refine z_iconst (0) dX7_rivetThem_60 rfl ?_
    refine z_bret dX7_rivetThem_61 rfl (Or.inl rfl) ⟨rfl, ?_⟩
    have C : ¬ cRiv g d u := by rintro ⟨q1, q2, q3⟩; omega
    refine z_q0 (kq _ FR0 ?_) C
    unfold rvG; rw [if_neg C]; exact HF
  · skip
    refine e_aload_n dX7_rivetThem_14 rfl ?_
    refine e_get (.ref (s + 1)) dX7_rivetThem_15 tf_7_12 (congrArg Prod.fst (se_s0 hk)) (congrArg va_rf (se_r0_0 hk)) ?_
    refine e_get (.ref (s + 8)) dX7_rivetThem_18 tf_7_90 (congrArg Prod.fst (se_s1 hk)) (congrArg va_rf (se_r1_1 hk)) ?_
    refine e_iload_n dX7_rivetThem_21 rfl ?_
    refine e_callV [.int _] dX7_rivetThem_22 tm_7_121 rfl (Nat.le_of_ble_eq_true rfl) (congrArg Prod.fst (se_s8 hk)) (Nat.le_of_ble_eq_true rfl) (Nat.le_refl _) (Nat.le_refl _) rfl (zp_X0_has (se_bl8 hk) u ⟨by omega, by omega⟩ ?_)
    refine z_ifb_eq 60 dX7_rivetThem_25 rfl (fun c2 => ?_) (fun c2 => ?_)
    · skip
      refine z_iconst (0) dX7_rivetThem_60 rfl ?_
      refine z_bret dX7_rivetThem_61 rfl (Or.inl rfl) ⟨rfl, ?_⟩
      have C : ¬ cRiv g d u := by rintro ⟨q1, q2, q3⟩; omega
      refine z_q0 (kq _ FR0 ?_) C
      unfold rvG; rw [if_neg C]; exact HF
    · skip
      refine e_aload_n dX7_rivetThem_28 rfl ?_
      refine e_get (.ref (s + 1)) dX7_rivetThem_29 tf_7_12 (congrArg Prod.fst (se_s0 hk)) (congrArg va_rf (se_r0_0 hk)) ?_
      refine e_get (.ref (s + 2)) dX7_rivetThem_32 tf_7_75 (congrArg Prod.fst (se_s1 hk)) (congrArg va_rf (se_r1_0 hk)) ?_
      refine e_get (.ref (s + 7)) dX7_rivetThem_35 tf_7_124 (congrArg Prod.fst (se_s2 hk)) (congrArg va_rf (se_r2_4 hk)) ?_
      refine e_iload_n dX7_rivetThem_38 rfl ?_
      refine z_ild (dm g d) dX7_rivetThem_39 (se_s7 hk) (by decide) (by omega) (by omega) (isF_dm HF (by omega) (by omega)) ?_
      have y3 := wM_d (isF_w HF).2.1 (show 0 ≤ d by omega) (by omega)
      refine z_iconst (-1) dX7_rivetThem_40 rfl ?_
      refine z_icmp_ne 60 dX7_rivetThem_41 rfl ⟨by omega, by omega⟩ ⟨by omega, by omega⟩ (fun c4 => ?_) (fun c4 => ?_)
      · skip
        refine z_iconst (0) dX7_rivetThem_60 rfl ?_
        refine z_bret dX7_rivetThem_61 rfl (Or.inl rfl) ⟨rfl, ?_⟩
        have C : ¬ cRiv g d u := by rintro ⟨q1, q2, q3⟩; omega
        refine z_q0 (kq _ FR0 ?_) C
        unfold rvG; rw [if_neg C]; exact HF
      · skip
        refine e_aload_n dX7_rivetThem_44 rfl ?_
        refine e_get (.ref (s + 1)) dX7_rivetThem_45 tf_7_12 (congrArg Prod.fst (se_s0 hk)) (congrArg va_rf (se_r0_0 hk)) ?_
        refine e_get (.ref (s + 8)) dX7_rivetThem_48 tf_7_90 (congrArg Prod.fst (se_s1 hk)) (congrArg va_rf (se_r1_1 hk)) ?_
        refine e_get (.ref (s + 13)) dX7_rivetThem_51 tf_7_124 (congrArg Prod.fst (se_s8 hk)) (congrArg va_rf (se_r8_4 hk)) ?_
        refine e_iload_n dX7_rivetThem_54 rfl ?_
        refine z_ild (um g u) dX7_rivetThem_55 (se_s13 hk) (by decide) (by omega) (by omega) (isF_um HF (by omega) (by omega)) ?_
        have y5 := wM_u (isF_w HF).2.1 (show 0 ≤ u by omega) (by omega)
        refine z_iconst (-1) dX7_rivetThem_56 rfl ?_
        refine z_icmp_eq 62 dX7_rivetThem_57 rfl ⟨by omega, by omega⟩ ⟨by omega, by omega⟩ (fun c6 => ?_) (fun c6 => ?_)
        · skip
          refine e_aload_n dX7_rivetThem_62 rfl ?_
          refine e_get (.ref (s + 1)) dX7_rivetThem_63 tf_7_12 (congrArg Prod.fst (se_s0 hk)) (congrArg va_rf (se_r0_0 hk)) ?_
          refine e_iload_n dX7_rivetThem_66 rfl ?_
          refine e_iload_n dX7_rivetThem_67 rfl ?_
          refine e_callV [.int _, .int _] dX7_rivetThem_68 tm_7_127 rfl (Nat.le_of_ble_eq_true rfl) (congrArg Prod.fst (se_s1 hk)) (Nat.le_of_ble_eq_true rfl) (Nat.le_refl _) (Nat.le_refl _) rfl (zp_X2_join_free (se_fg1 hk) HF d ⟨by omega, by omega⟩ u ⟨by omega, by omega⟩ (by omega) (fun  h7 f8 p9 => ?_))
          have k10 := lk_q (frm_s f8) hk
          have FR11 := frm_t FR0 (frm_m (S' := (fun a k => a = s + 7 ∨ a = s + 13)) f8 (fun a k q => by omega))
          refine z_iconst (1) dX7_rivetThem_71 rfl ?_
          refine z_bret dX7_rivetThem_72 rfl (Or.inr rfl) ⟨rfl, ?_⟩
          have C : cRiv g d u := ⟨by omega, by omega, by omega⟩
          refine z_q1 (kq _ FR11 ?_) C
          unfold rvG; rw [if_pos C]; exact p9
        · skip
          refine z_iconst (0) dX7_rivetThem_60 rfl ?_
          refine z_bret dX7_rivetThem_61 rfl (Or.inl rfl) ⟨rfl, ?_⟩
          have C : ¬ cRiv g d u := by rintro ⟨q1, q2, q3⟩; omega
          refine z_q0 (kq _ FR0 ?_) C
          unfold rvG; rw [if_neg C]; exact HF
set_option maxHeartbeats 400000 in
theorem zp_X7_heatHim {ad : mA} {dd : Nat} {h : mH} {Q : mQ} {s : Nat} {g q : Int → Int} {n : Int} (hk : sek h s) (HF : isF h (s + 1) g) (HQ : isS h s q n)  (d : Int) (d_r : -2147483648 ≤ d ∧ d < 2147483648) (pn : n < 1000) (kq : ∀ h1, frm (fun a k => a = s ∧ k = 4) h h1 → (isS h1 s (heQ g q d) (n + 1)) → Q (some (.int (zI (bZ (cHea g q d))))) h1) : mCal TB0 ad (dd + 3) M_X7_heatHim [.ref s, .int (zI d)] h 0 0 Q := by
  refine ⟨Nat.le_of_ble_eq_true rfl, ?_⟩
  show mEv TB0 ad M_X7_heatHim (dd + 3) (0, 0) (mCal TB0 ad (dd + 2)) (fun v h' z => z.1 = 0 ∧ Q v h') 0 [some (.ref s), some (.int (zI d))] [] h (0, 0)
  have FR0 : frm (fun a k => a = s ∧ k = 4) h h := frm_0 h
  have w1 := isF_n HF
  have w2 : rI h (s + 2) 5 = nd g := isF_nd HF
  have w3 : rI h (s + 8) 5 = nu g := isF_nu HF
  have W := isF_w HF
  have wq := wfQ_e HQ.1
  refine e_aload_n dX7_heatHim_0 rfl ?_
  refine e_get (.ref (s + 1)) dX7_heatHim_1 tf_7_12 (congrArg Prod.fst (se_s0 hk)) (congrArg va_rf (se_r0_0 hk)) ?_
  refine e_iload_n dX7_heatHim_4 rfl ?_
  refine e_callV [.int _] dX7_heatHim_5 tm_7_130 rfl (Nat.le_of_ble_eq_true rfl) (congrArg Prod.fst (se_s1 hk)) (Nat.le_of_ble_eq_true rfl) (Nat.le_refl _) (Nat.le_refl _) rfl (zp_X2_upOf (se_fg1 hk) HF d ⟨by omega, by omega⟩ ?_)
  have y1 := upv_s (isF_w HF) d
  refine z_iconst (-1) dX7_heatHim_8 rfl ?_
  refine z_icmp_eq 20 dX7_heatHim_9 rfl ⟨by omega, by omega⟩ ⟨by omega, by omega⟩ (fun c2 => ?_) (fun c2 => ?_)
  · skip
    refine z_iconst (0) dX7_heatHim_20 rfl ?_
    refine z_bret dX7_heatHim_21 rfl (Or.inl rfl) ⟨rfl, ?_⟩
    have C : ¬ cHea g q d := by
      rintro ⟨⟨q1, q2⟩, q3⟩
      have := upv_in q1.1 q1.2
      first | omega | exact q3 (And.right ‹(0 ≤ d ∧ d < 6) ∧ hasZ (q 3) d›)
    refine z_q0 (kq _ FR0 ?_) C
    unfold heQ; rw [if_neg C]; exact isS_1 HQ pn
  · skip
    refine e_aload_n dX7_heatHim_12 rfl ?_
    refine e_iload_n dX7_heatHim_13 rfl ?_
    refine e_callV [.int _] dX7_heatHim_14 tm_7_133 rfl (Nat.le_of_ble_eq_true rfl) (congrArg Prod.fst (se_s0 hk)) (Nat.le_of_ble_eq_true rfl) (Nat.le_refl _) (Nat.le_refl _) rfl (zp_X7_isHot hk HQ d ⟨by omega, by omega⟩ ?_)
    refine z_ifb_eq 22 dX7_heatHim_17 rfl (fun c3 => ?_) (fun c3 => ?_)
    · skip
      refine e_aload_n dX7_heatHim_22 rfl ?_
      refine e_dup dX7_heatHim_23 rfl ?_
      refine z_get (q 3) dX7_heatHim_24 tf_7_28 (congrArg Prod.fst (se_s0 hk)) (Or.inl rfl) HQ.2.2.2.2.1 ?_
      have y4 := wfQ_e HQ.1
      refine z_iconst (1) dX7_heatHim_27 rfl ?_
      refine e_iload_n dX7_heatHim_28 rfl ?_
      refine z_ishl dX7_heatHim_29 (by omega) (by omega) (by omega) (by omega) ?_
      have y5 := shlZ_b 1 d
      refine z_ior dX7_heatHim_30 (by omega) (by omega) (by omega) (by omega) ?_
      have y6 := orZ_b (q 3) (shlZ 1 d)
      refine z_put dX7_heatHim_31 tf_7_28 (congrArg Prod.fst (se_s0 hk)) rfl (Or.inl rfl) (fun h7 e8 => ?_)
      have f9 := frm_1 e8
      have k10 := lk_q (frm_s f9) hk
      have H11 := isF_c f9 (fun a k q1 q2 => by omega) HF
      have FR12 := frm_t FR0 (frm_m (S' := (fun a k => a = s ∧ k = 4)) f9 (fun a k q => by omega))
      refine z_iconst (1) dX7_heatHim_34 rfl ?_
      refine z_bret dX7_heatHim_35 rfl (Or.inr rfl) ⟨rfl, ?_⟩
      have C : cHea g q d := ⟨⟨by omega, by omega⟩, fun z => absurd (show (0 ≤ d ∧ d < 6) ∧ hasZ (q 3) d from ⟨by omega, z⟩) (by assumption)⟩
      refine z_q1 (kq _ FR12 ?_) C
      unfold heQ; rw [if_pos C]; exact ⟨wfQ_hea HQ.1 pn (by omega), ((frm_r f9 (by omega))).trans HQ.2.1, ((frm_r f9 (by omega))).trans HQ.2.2.1, ((frm_r f9 (by omega))).trans HQ.2.2.2.1, (show rI h7 s 4 = (orZ (q 3) (shlZ 1 d)) from (rI_eq e8 ⟨by omega, by omega⟩)), ((frm_r f9 (by omega))).trans HQ.2.2.2.2.2.1, ((frm_r f9 (by omega))).trans HQ.2.2.2.2.2.2.1, ((frm_r f9 (by omega))).trans HQ.2.2.2.2.2.2.2.1, ((frm_r f9 (by omega))).trans HQ.2.2.2.2.2.2.2.2⟩
    · skip
      refine z_iconst (0) dX7_heatHim_20 rfl ?_
      refine z_bret dX7_heatHim_21 rfl (Or.inl rfl) ⟨rfl, ?_⟩
      have C : ¬ cHea g q d := by
        rintro ⟨⟨q1, q2⟩, q3⟩
        have := upv_in q1.1 q1.2
        first | omega | exact q3 (And.right ‹(0 ≤ d ∧ d < 6) ∧ hasZ (q 3) d›)
      refine z_q0 (kq _ FR0 ?_) C
      unfold heQ; rw [if_neg C]; exact isS_1 HQ pn
set_option maxHeartbeats 400000 in
theorem zp_X7_partThem {ad : mA} {dd : Nat} {h : mH} {Q : mQ} {s : Nat} {g q : Int → Int} {n : Int} (hk : sek h s) (HF : isF h (s + 1) g) (HQ : isS h s q n)  (d : Int) (d_r : -2147483648 ≤ d ∧ d < 2147483648)  (kq : ∀ h1, frm (fun a k => a = s + 7 ∨ a = s + 13) h h1 → (isF h1 (s + 1) (paG g q d)) → Q (some (.int (zI (bZ (cPar g q d))))) h1) : mCal TB0 ad (dd + 3) M_X7_partThem [.ref s, .int (zI d)] h 0 0 Q := by
  refine ⟨Nat.le_of_ble_eq_true rfl, ?_⟩
  show mEv TB0 ad M_X7_partThem (dd + 3) (0, 0) (mCal TB0 ad (dd + 2)) (fun v h' z => z.1 = 0 ∧ Q v h') 0 [some (.ref s), some (.int (zI d))] [] h (0, 0)
  have FR0 : frm (fun a k => a = s + 7 ∨ a = s + 13) h h := frm_0 h
  have w1 := isF_n HF
  have w2 : rI h (s + 2) 5 = nd g := isF_nd HF
  have w3 : rI h (s + 8) 5 = nu g := isF_nu HF
  have W := isF_w HF
  have wq := wfQ_e HQ.1
  refine e_aload_n dX7_partThem_0 rfl ?_
  refine e_get (.ref (s + 1)) dX7_partThem_1 tf_7_12 (congrArg Prod.fst (se_s0 hk)) (congrArg va_rf (se_r0_0 hk)) ?_
  refine e_iload_n dX7_partThem_4 rfl ?_
  refine e_callV [.int _] dX7_partThem_5 tm_7_130 rfl (Nat.le_of_ble_eq_true rfl) (congrArg Prod.fst (se_s1 hk)) (Nat.le_of_ble_eq_true rfl) (Nat.le_refl _) (Nat.le_refl _) rfl (zp_X2_upOf (se_fg1 hk) HF d ⟨by omega, by omega⟩ ?_)
  have y1 := upv_s (isF_w HF) d
  refine z_iconst (-1) dX7_partThem_8 rfl ?_
  refine z_icmp_eq 20 dX7_partThem_9 rfl ⟨by omega, by omega⟩ ⟨by omega, by omega⟩ (fun c2 => ?_) (fun c2 => ?_)
  · skip
    refine z_iconst (0) dX7_partThem_20 rfl ?_
    refine z_bret dX7_partThem_21 rfl (Or.inl rfl) ⟨rfl, ?_⟩
    have C : ¬ cPar g q d := by
      rintro ⟨⟨q1, q2⟩, q3⟩
      have := upv_in q1.1 q1.2
      first | omega | exact absurd (show (0 ≤ d ∧ d < 6) ∧ hasZ (q 3) d from ⟨by omega, q3⟩) (by assumption)
    refine z_q0 (kq _ FR0 ?_) C
    unfold paG; rw [if_neg C]; exact HF
  · skip
    refine e_aload_n dX7_partThem_12 rfl ?_
    refine e_iload_n dX7_partThem_13 rfl ?_
    refine e_callV [.int _] dX7_partThem_14 tm_7_133 rfl (Nat.le_of_ble_eq_true rfl) (congrArg Prod.fst (se_s0 hk)) (Nat.le_of_ble_eq_true rfl) (Nat.le_refl _) (Nat.le_refl _) rfl (zp_X7_isHot hk HQ d ⟨by omega, by omega⟩ ?_)
    refine z_ifb_ne 22 dX7_partThem_17 rfl (fun c3 => ?_) (fun c3 => ?_)
    · skip
      refine e_aload_n dX7_partThem_22 rfl ?_
      refine e_get (.ref (s + 1)) dX7_partThem_23 tf_7_12 (congrArg Prod.fst (se_s0 hk)) (congrArg va_rf (se_r0_0 hk)) ?_
      refine e_iload_n dX7_partThem_26 rfl ?_
      refine e_callV [.int _] dX7_partThem_27 tm_7_136 rfl (Nat.le_of_ble_eq_true rfl) (congrArg Prod.fst (se_s1 hk)) (Nat.le_of_ble_eq_true rfl) (Nat.le_refl _) (Nat.le_refl _) rfl (zp_X2_loosenDown (se_fg1 hk) HF d ⟨by omega, by omega⟩ ⟨by omega, by omega⟩ (fun  h4 f5 p6 => ?_))
      have k7 := lk_q (frm_s f5) hk
      have H8 := isS_c f5 (fun a k q1 q2 q3 => by omega) HQ
      have FR9 := frm_t FR0 (frm_m (S' := (fun a k => a = s + 7 ∨ a = s + 13)) f5 (fun a k q => by omega))
      refine z_iconst (1) dX7_partThem_30 rfl ?_
      refine z_bret dX7_partThem_31 rfl (Or.inr rfl) ⟨rfl, ?_⟩
      have C : cPar g q d := ⟨⟨by omega, by omega⟩, And.right ‹(0 ≤ d ∧ d < 6) ∧ hasZ (q 3) d›⟩
      refine z_q1 (kq _ FR9 ?_) C
      unfold paG; rw [if_pos C]; exact p6
    · skip
      refine z_iconst (0) dX7_partThem_20 rfl ?_
      refine z_bret dX7_partThem_21 rfl (Or.inl rfl) ⟨rfl, ?_⟩
      have C : ¬ cPar g q d := by
        rintro ⟨⟨q1, q2⟩, q3⟩
        have := upv_in q1.1 q1.2
        first | omega | exact absurd (show (0 ≤ d ∧ d < 6) ∧ hasZ (q 3) d from ⟨by omega, q3⟩) (by assumption)
      refine z_q0 (kq _ FR0 ?_) C
      unfold paG; rw [if_neg C]; exact HF
set_option maxHeartbeats 400000 in
theorem zp_X7_oilThem {ad : mA} {dd : Nat} {h : mH} {Q : mQ} {s : Nat} {g q : Int → Int} {n : Int} (hk : sek h s) (HF : isF h (s + 1) g) (HQ : isS h s q n)  (d : Int) (d_r : -2147483648 ≤ d ∧ d < 2147483648) (pn : n < 1000) (kq : ∀ h1, frm (fun a k => a = s ∧ (k = 5 ∨ k = 6)) h h1 → (isS h1 s (oiQ g q d) (n + 1)) → Q (some (.int (zI (bZ (0 ≤ d ∧ d < nd g))))) h1) : mCal TB0 ad (dd + 3) M_X7_oilThem [.ref s, .int (zI d)] h 0 0 Q := by
  refine ⟨Nat.le_of_ble_eq_true rfl, ?_⟩
  show mEv TB0 ad M_X7_oilThem (dd + 3) (0, 0) (mCal TB0 ad (dd + 2)) (fun v h' z => z.1 = 0 ∧ Q v h') 0 [some (.ref s), some (.int (zI d)), none] [] h (0, 0)
  have FR0 : frm (fun a k => a = s ∧ (k = 5 ∨ k = 6)) h h := frm_0 h
  have w1 := isF_n HF
  have w2 : rI h (s + 2) 5 = nd g := isF_nd HF
  have w3 : rI h (s + 8) 5 = nu g := isF_nu HF
  have W := isF_w HF
  have wq := wfQ_e HQ.1
  refine e_aload_n dX7_oilThem_0 rfl ?_
  refine e_get (.ref (s + 1)) dX7_oilThem_1 tf_7_12 (congrArg Prod.fst (se_s0 hk)) (congrArg va_rf (se_r0_0 hk)) ?_
  refine e_get (.ref (s + 2)) dX7_oilThem_4 tf_7_75 (congrArg Prod.fst (se_s1 hk)) (congrArg va_rf (se_r1_0 hk)) ?_
  refine e_iload_n dX7_oilThem_7 rfl ?_
  refine e_callV [.int _] dX7_oilThem_8 tm_7_121 rfl (Nat.le_of_ble_eq_true rfl) (congrArg Prod.fst (se_s2 hk)) (Nat.le_of_ble_eq_true rfl) (Nat.le_refl _) (Nat.le_refl _) rfl (zp_X0_has (se_bl2 hk) d ⟨by omega, by omega⟩ ?_)
  refine z_ifb_ne 16 dX7_oilThem_11 rfl (fun c1 => ?_) (fun c1 => ?_)
  · skip
    refine e_aload_n dX7_oilThem_16 rfl ?_
    refine e_dup dX7_oilThem_17 rfl ?_
    refine z_get (q 4) dX7_oilThem_18 tf_7_31 (congrArg Prod.fst (se_s0 hk)) (Or.inl rfl) HQ.2.2.2.2.2.1 ?_
    have y2 := wfQ_e HQ.1
    refine z_iconst (1) dX7_oilThem_21 rfl ?_
    refine e_iload_n dX7_oilThem_22 rfl ?_
    refine z_ishl dX7_oilThem_23 (by omega) (by omega) (by omega) (by omega) ?_
    have y3 := shlZ_b 1 d
    refine z_ior dX7_oilThem_24 (by omega) (by omega) (by omega) (by omega) ?_
    have y4 := orZ_b (q 4) (shlZ 1 d)
    refine z_put dX7_oilThem_25 tf_7_31 (congrArg Prod.fst (se_s0 hk)) rfl (Or.inl rfl) (fun h5 e6 => ?_)
    have f7 := frm_1 e6
    have k8 := lk_q (frm_s f7) hk
    have H9 := isF_c f7 (fun a k q1 q2 => by omega) HF
    have FR10 := frm_t FR0 (frm_m (S' := (fun a k => a = s ∧ (k = 5 ∨ k = 6))) f7 (fun a k q => by omega))
    refine e_aload_n dX7_oilThem_28 rfl ?_
    refine e_get (.ref (s + 1)) dX7_oilThem_29 tf_7_12 (congrArg Prod.fst (se_s0 k8)) (congrArg va_rf (se_r0_0 k8)) ?_
    refine e_iload_n dX7_oilThem_32 rfl ?_
    refine e_callV [.int _] dX7_oilThem_33 tm_7_130 rfl (Nat.le_of_ble_eq_true rfl) (congrArg Prod.fst (se_s1 k8)) (Nat.le_of_ble_eq_true rfl) (Nat.le_refl _) (Nat.le_refl _) rfl (zp_X2_upOf (se_fg1 k8) H9 d ⟨by omega, by omega⟩ ?_)
    have y11 := upv_s (isF_w H9) d
    refine e_istore_n (L' := [_, _, _]) dX7_oilThem_36 (Nat.le_of_ble_eq_true rfl) rfl ?_
    refine e_iload_n dX7_oilThem_37 rfl ?_
    refine z_iconst (-1) dX7_oilThem_38 rfl ?_
    refine z_icmp_eq 54 dX7_oilThem_39 rfl ⟨by omega, by omega⟩ ⟨by omega, by omega⟩ (fun c12 => ?_) (fun c12 => ?_)
    · skip
      refine z_iconst (1) dX7_oilThem_54 rfl ?_
      refine z_bret dX7_oilThem_55 rfl (Or.inr rfl) ⟨rfl, ?_⟩
      have C : 0 ≤ d ∧ d < nd g := by omega
      have u1 := upv_in C.1 C.2
      refine z_q1 (kq _ FR10 ?_) C
      unfold oiQ oilQ; rw [if_pos C]
      rw [if_pos (by omega)]; exact ⟨wfQ_oil1 HQ.1 pn (by omega), ((frm_r f7 (by omega))).trans HQ.2.1, ((frm_r f7 (by omega))).trans HQ.2.2.1, ((frm_r f7 (by omega))).trans HQ.2.2.2.1, ((frm_r f7 (by omega))).trans HQ.2.2.2.2.1, (show rI h5 s 5 = (orZ (q 4) (shlZ 1 d)) from (rI_eq e6 ⟨by omega, by omega⟩)), ((frm_r f7 (by omega))).trans HQ.2.2.2.2.2.2.1, ((frm_r f7 (by omega))).trans HQ.2.2.2.2.2.2.2.1, ((frm_r f7 (by omega))).trans HQ.2.2.2.2.2.2.2.2⟩
    · skip
      refine e_aload_n dX7_oilThem_42 rfl ?_
      refine e_dup dX7_oilThem_43 rfl ?_
      refine z_get (q 5) dX7_oilThem_44 tf_7_34 (congrArg Prod.fst (se_s0 k8)) (Or.inl rfl) ((frm_r f7 (by omega)).trans HQ.2.2.2.2.2.2.1) ?_
      refine z_iconst (1) dX7_oilThem_47 rfl ?_
      refine e_iload_n dX7_oilThem_48 rfl ?_
      refine z_ishl dX7_oilThem_49 (by omega) (by omega) (by omega) (by omega) ?_
      have y13 := shlZ_b 1 (upv g d)
      refine z_ior dX7_oilThem_50 (by omega) (by omega) (by omega) (by omega) ?_
      have y14 := orZ_b (q 5) (shlZ 1 (upv g d))
      refine z_put dX7_oilThem_51 tf_7_34 (congrArg Prod.fst (se_s0 k8)) rfl (Or.inl rfl) (fun h15 e16 => ?_)
      have f17 := frm_1 e16
      have k18 := lk_q (frm_s f17) k8
      have H19 := isF_c f17 (fun a k q1 q2 => by omega) H9
      have FR20 := frm_t FR10 (frm_m (S' := (fun a k => a = s ∧ (k = 5 ∨ k = 6))) f17 (fun a k q => by omega))
      refine z_iconst (1) dX7_oilThem_54 rfl ?_
      refine z_bret dX7_oilThem_55 rfl (Or.inr rfl) ⟨rfl, ?_⟩
      have C : 0 ≤ d ∧ d < nd g := by omega
      have u1 := upv_in C.1 C.2
      refine z_q1 (kq _ FR20 ?_) C
      unfold oiQ oilQ; rw [if_pos C]
      rw [if_neg (by omega), ← u1]; exact ⟨wfQ_oil2 HQ.1 pn (by omega) (by omega), (((frm_r f17 (by omega)).trans (frm_r f7 (by omega)))).trans HQ.2.1, (((frm_r f17 (by omega)).trans (frm_r f7 (by omega)))).trans HQ.2.2.1, (((frm_r f17 (by omega)).trans (frm_r f7 (by omega)))).trans HQ.2.2.2.1, (((frm_r f17 (by omega)).trans (frm_r f7 (by omega)))).trans HQ.2.2.2.2.1, (show rI h15 s 5 = (orZ (q 4) (shlZ 1 d)) from ((frm_r f17 (by omega)).trans (rI_eq e6 ⟨by omega, by omega⟩))), (show rI h15 s 6 = (orZ (q 5) (shlZ 1 (upv g d))) from (rI_eq e16 ⟨by omega, by omega⟩)), (((frm_r f17 (by omega)).trans (frm_r f7 (by omega)))).trans HQ.2.2.2.2.2.2.2.1, (((frm_r f17 (by omega)).trans (frm_r f7 (by omega)))).trans HQ.2.2.2.2.2.2.2.2⟩
  · skip
    refine z_iconst (0) dX7_oilThem_14 rfl ?_
    refine z_bret dX7_oilThem_15 rfl (Or.inl rfl) ⟨rfl, ?_⟩
    have C : ¬ (0 ≤ d ∧ d < nd g) := by omega
    refine z_q0 (kq _ FR0 ?_) C
    unfold oiQ; rw [if_neg C]; exact isS_1 HQ pn
