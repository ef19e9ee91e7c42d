/-! ROWS: the class binds a forge, and takes a row -/
theorem dX5_bind_0 : decode cX5_bind 0 = .ok (.aload_n 0, 1) := by decide +kernel
theorem dX5_bind_1 : decode cX5_bind 1 = .ok (.getfield 12, 3) := by decide +kernel
theorem dX5_bind_4 : decode cX5_bind 4 = .ok (.aload_n 1, 1) := by decide +kernel
theorem dX5_bind_5 : decode cX5_bind 5 = .ok (.invokevirtual 49, 3) := by decide +kernel
theorem dX5_bind_8 : decode cX5_bind 8 = .ok (.iconst 0, 1) := by decide +kernel
theorem dX5_bind_9 : decode cX5_bind 9 = .ok (.istore_n 2, 1) := by decide +kernel
theorem dX5_bind_10 : decode cX5_bind 10 = .ok (.iload_n 2, 1) := by decide +kernel
theorem dX5_bind_11 : decode cX5_bind 11 = .ok (.aload_n 0, 1) := by decide +kernel
theorem dX5_bind_12 : decode cX5_bind 12 = .ok (.getfield 12, 3) := by decide +kernel
theorem dX5_bind_15 : decode cX5_bind 15 = .ok (.getfield 53, 3) := by decide +kernel
theorem dX5_bind_18 : decode cX5_bind 18 = .ok (.getfield 57, 3) := by decide +kernel
theorem dX5_bind_21 : decode cX5_bind 21 = .ok (.if_icmp .ge 82, 3) := by decide +kernel
theorem dX5_bind_24 : decode cX5_bind 24 = .ok (.aload_n 0, 1) := by decide +kernel
theorem dX5_bind_25 : decode cX5_bind 25 = .ok (.getfield 28, 3) := by decide +kernel
theorem dX5_bind_28 : decode cX5_bind 28 = .ok (.iload_n 2, 1) := by decide +kernel
theorem dX5_bind_29 : decode cX5_bind 29 = .ok (.aload_n 0, 1) := by decide +kernel
theorem dX5_bind_30 : decode cX5_bind 30 = .ok (.getfield 12, 3) := by decide +kernel
theorem dX5_bind_33 : decode cX5_bind 33 = .ok (.iload_n 2, 1) := by decide +kernel
theorem dX5_bind_34 : decode cX5_bind 34 = .ok (.invokevirtual 63, 3) := by decide +kernel
theorem dX5_bind_37 : decode cX5_bind 37 = .ok (.iconst (-1), 1) := by decide +kernel
theorem dX5_bind_38 : decode cX5_bind 38 = .ok (.if_icmp .ne 8, 3) := by decide +kernel
theorem dX5_bind_41 : decode cX5_bind 41 = .ok (.bipush 6, 2) := by decide +kernel
theorem dX5_bind_43 : decode cX5_bind 43 = .ok (.goto 11, 3) := by decide +kernel
theorem dX5_bind_46 : decode cX5_bind 46 = .ok (.aload_n 0, 1) := by decide +kernel
theorem dX5_bind_47 : decode cX5_bind 47 = .ok (.getfield 12, 3) := by decide +kernel
theorem dX5_bind_50 : decode cX5_bind 50 = .ok (.iload_n 2, 1) := by decide +kernel
theorem dX5_bind_51 : decode cX5_bind 51 = .ok (.invokevirtual 63, 3) := by decide +kernel
theorem dX5_bind_54 : decode cX5_bind 54 = .ok (.iastore, 1) := by decide +kernel
theorem dX5_bind_55 : decode cX5_bind 55 = .ok (.iconst 0, 1) := by decide +kernel
theorem dX5_bind_56 : decode cX5_bind 56 = .ok (.istore_n 3, 1) := by decide +kernel
theorem dX5_bind_57 : decode cX5_bind 57 = .ok (.iload_n 3, 1) := by decide +kernel
theorem dX5_bind_58 : decode cX5_bind 58 = .ok (.aload_n 0, 1) := by decide +kernel
theorem dX5_bind_59 : decode cX5_bind 59 = .ok (.getfield 12, 3) := by decide +kernel
theorem dX5_bind_62 : decode cX5_bind 62 = .ok (.getfield 67, 3) := by decide +kernel
theorem dX5_bind_65 : decode cX5_bind 65 = .ok (.getfield 57, 3) := by decide +kernel
theorem dX5_bind_68 : decode cX5_bind 68 = .ok (.if_icmp .ge 29, 3) := by decide +kernel
theorem dX5_bind_71 : decode cX5_bind 71 = .ok (.aload_n 0, 1) := by decide +kernel
theorem dX5_bind_72 : decode cX5_bind 72 = .ok (.getfield 40, 3) := by decide +kernel
theorem dX5_bind_75 : decode cX5_bind 75 = .ok (.iload_n 2, 1) := by decide +kernel
theorem dX5_bind_76 : decode cX5_bind 76 = .ok (.bipush 7, 2) := by decide +kernel
theorem dX5_bind_78 : decode cX5_bind 78 = .ok (.imul, 1) := by decide +kernel
theorem dX5_bind_79 : decode cX5_bind 79 = .ok (.iload_n 3, 1) := by decide +kernel
theorem dX5_bind_80 : decode cX5_bind 80 = .ok (.iadd, 1) := by decide +kernel
theorem dX5_bind_81 : decode cX5_bind 81 = .ok (.aload_n 0, 1) := by decide +kernel
theorem dX5_bind_82 : decode cX5_bind 82 = .ok (.getfield 12, 3) := by decide +kernel
theorem dX5_bind_85 : decode cX5_bind 85 = .ok (.iload_n 2, 1) := by decide +kernel
theorem dX5_bind_86 : decode cX5_bind 86 = .ok (.iload_n 3, 1) := by decide +kernel
theorem dX5_bind_87 : decode cX5_bind 87 = .ok (.invokevirtual 70, 3) := by decide +kernel
theorem dX5_bind_90 : decode cX5_bind 90 = .ok (.iastore, 1) := by decide +kernel
theorem dX5_bind_91 : decode cX5_bind 91 = .ok (.iinc 3 1, 3) := by decide +kernel
theorem dX5_bind_94 : decode cX5_bind 94 = .ok (.goto (-37), 3) := by decide +kernel
theorem dX5_bind_97 : decode cX5_bind 97 = .ok (.iinc 2 1, 3) := by decide +kernel
theorem dX5_bind_100 : decode cX5_bind 100 = .ok (.goto (-90), 3) := by decide +kernel
theorem dX5_bind_103 : decode cX5_bind 103 = .ok (.aload_n 0, 1) := by decide +kernel
theorem dX5_bind_104 : decode cX5_bind 104 = .ok (.getfield 43, 3) := by decide +kernel
theorem dX5_bind_107 : decode cX5_bind 107 = .ok (.bipush 6, 2) := by decide +kernel
theorem dX5_bind_109 : decode cX5_bind 109 = .ok (.invokestatic 74, 3) := by decide +kernel
theorem dX5_bind_112 : decode cX5_bind 112 = .ok (.aload_n 0, 1) := by decide +kernel
theorem dX5_bind_113 : decode cX5_bind 113 = .ok (.getfield 46, 3) := by decide +kernel
theorem dX5_bind_116 : decode cX5_bind 116 = .ok (.bipush 6, 2) := by decide +kernel
theorem dX5_bind_118 : decode cX5_bind 118 = .ok (.invokestatic 74, 3) := by decide +kernel
theorem dX5_bind_121 : decode cX5_bind 121 = .ok (.iconst 0, 1) := by decide +kernel
theorem dX5_bind_122 : decode cX5_bind 122 = .ok (.istore_n 2, 1) := by decide +kernel
theorem dX5_bind_123 : decode cX5_bind 123 = .ok (.iload_n 2, 1) := by decide +kernel
theorem dX5_bind_124 : decode cX5_bind 124 = .ok (.aload_n 0, 1) := by decide +kernel
theorem dX5_bind_125 : decode cX5_bind 125 = .ok (.getfield 12, 3) := by decide +kernel
theorem dX5_bind_128 : decode cX5_bind 128 = .ok (.getfield 53, 3) := by decide +kernel
theorem dX5_bind_131 : decode cX5_bind 131 = .ok (.getfield 57, 3) := by decide +kernel
theorem dX5_bind_134 : decode cX5_bind 134 = .ok (.if_icmp .ge 65, 3) := by decide +kernel
theorem dX5_bind_137 : decode cX5_bind 137 = .ok (.iconst 0, 1) := by decide +kernel
theorem dX5_bind_138 : decode cX5_bind 138 = .ok (.istore_n 3, 1) := by decide +kernel
theorem dX5_bind_139 : decode cX5_bind 139 = .ok (.iload_n 3, 1) := by decide +kernel
theorem dX5_bind_140 : decode cX5_bind 140 = .ok (.aload_n 0, 1) := by decide +kernel
theorem dX5_bind_141 : decode cX5_bind 141 = .ok (.getfield 12, 3) := by decide +kernel
theorem dX5_bind_144 : decode cX5_bind 144 = .ok (.getfield 67, 3) := by decide +kernel
theorem dX5_bind_147 : decode cX5_bind 147 = .ok (.getfield 57, 3) := by decide +kernel
theorem dX5_bind_150 : decode cX5_bind 150 = .ok (.if_icmp .ge 43, 3) := by decide +kernel
theorem dX5_bind_153 : decode cX5_bind 153 = .ok (.aload_n 0, 1) := by decide +kernel
theorem dX5_bind_154 : decode cX5_bind 154 = .ok (.getfield 43, 3) := by decide +kernel
theorem dX5_bind_157 : decode cX5_bind 157 = .ok (.iload_n 2, 1) := by decide +kernel
theorem dX5_bind_158 : decode cX5_bind 158 = .ok (.bipush 7, 2) := by decide +kernel
theorem dX5_bind_160 : decode cX5_bind 160 = .ok (.imul, 1) := by decide +kernel
theorem dX5_bind_161 : decode cX5_bind 161 = .ok (.iload_n 3, 1) := by decide +kernel
theorem dX5_bind_162 : decode cX5_bind 162 = .ok (.iadd, 1) := by decide +kernel
theorem dX5_bind_163 : decode cX5_bind 163 = .ok (.aload_n 0, 1) := by decide +kernel
theorem dX5_bind_164 : decode cX5_bind 164 = .ok (.iload_n 2, 1) := by decide +kernel
theorem dX5_bind_165 : decode cX5_bind 165 = .ok (.iload_n 3, 1) := by decide +kernel
theorem dX5_bind_166 : decode cX5_bind 166 = .ok (.invokevirtual 80, 3) := by decide +kernel
theorem dX5_bind_169 : decode cX5_bind 169 = .ok (.iastore, 1) := by decide +kernel
theorem dX5_bind_170 : decode cX5_bind 170 = .ok (.aload_n 0, 1) := by decide +kernel
theorem dX5_bind_171 : decode cX5_bind 171 = .ok (.getfield 46, 3) := by decide +kernel
theorem dX5_bind_174 : decode cX5_bind 174 = .ok (.iload_n 3, 1) := by decide +kernel
theorem dX5_bind_175 : decode cX5_bind 175 = .ok (.bipush 7, 2) := by decide +kernel
theorem dX5_bind_177 : decode cX5_bind 177 = .ok (.imul, 1) := by decide +kernel
theorem dX5_bind_178 : decode cX5_bind 178 = .ok (.iload_n 2, 1) := by decide +kernel
theorem dX5_bind_179 : decode cX5_bind 179 = .ok (.iadd, 1) := by decide +kernel
theorem dX5_bind_180 : decode cX5_bind 180 = .ok (.aload_n 0, 1) := by decide +kernel
theorem dX5_bind_181 : decode cX5_bind 181 = .ok (.iload_n 3, 1) := by decide +kernel
theorem dX5_bind_182 : decode cX5_bind 182 = .ok (.iload_n 2, 1) := by decide +kernel
theorem dX5_bind_183 : decode cX5_bind 183 = .ok (.invokevirtual 83, 3) := by decide +kernel
theorem dX5_bind_186 : decode cX5_bind 186 = .ok (.iastore, 1) := by decide +kernel
theorem dX5_bind_187 : decode cX5_bind 187 = .ok (.iinc 3 1, 3) := by decide +kernel
theorem dX5_bind_190 : decode cX5_bind 190 = .ok (.goto (-51), 3) := by decide +kernel
theorem dX5_bind_193 : decode cX5_bind 193 = .ok (.iinc 2 1, 3) := by decide +kernel
theorem dX5_bind_196 : decode cX5_bind 196 = .ok (.goto (-73), 3) := by decide +kernel
theorem dX5_bind_199 : decode cX5_bind 199 = .ok (.return_, 1) := by decide +kernel
theorem dX5_takePairs_0 : decode cX5_takePairs 0 = .ok (.iconst 0, 1) := by decide +kernel
theorem dX5_takePairs_1 : decode cX5_takePairs 1 = .ok (.istore_n 1, 1) := by decide +kernel
theorem dX5_takePairs_2 : decode cX5_takePairs 2 = .ok (.iload_n 1, 1) := by decide +kernel
theorem dX5_takePairs_3 : decode cX5_takePairs 3 = .ok (.aload_n 0, 1) := by decide +kernel
theorem dX5_takePairs_4 : decode cX5_takePairs 4 = .ok (.getfield 12, 3) := by decide +kernel
theorem dX5_takePairs_7 : decode cX5_takePairs 7 = .ok (.getfield 53, 3) := by decide +kernel
theorem dX5_takePairs_10 : decode cX5_takePairs 10 = .ok (.getfield 57, 3) := by decide +kernel
theorem dX5_takePairs_13 : decode cX5_takePairs 13 = .ok (.if_icmp .ge 20, 3) := by decide +kernel
theorem dX5_takePairs_16 : decode cX5_takePairs 16 = .ok (.aload_n 0, 1) := by decide +kernel
theorem dX5_takePairs_17 : decode cX5_takePairs 17 = .ok (.iload_n 1, 1) := by decide +kernel
theorem dX5_takePairs_18 : decode cX5_takePairs 18 = .ok (.aload_n 0, 1) := by decide +kernel
theorem dX5_takePairs_19 : decode cX5_takePairs 19 = .ok (.getfield 28, 3) := by decide +kernel
theorem dX5_takePairs_22 : decode cX5_takePairs 22 = .ok (.iload_n 1, 1) := by decide +kernel
theorem dX5_takePairs_23 : decode cX5_takePairs 23 = .ok (.iaload, 1) := by decide +kernel
theorem dX5_takePairs_24 : decode cX5_takePairs 24 = .ok (.invokevirtual 99, 3) := by decide +kernel
theorem dX5_takePairs_27 : decode cX5_takePairs 27 = .ok (.iinc 1 1, 3) := by decide +kernel
theorem dX5_takePairs_30 : decode cX5_takePairs 30 = .ok (.goto (-28), 3) := by decide +kernel
theorem dX5_takePairs_33 : decode cX5_takePairs 33 = .ok (.return_, 1) := by decide +kernel
theorem dX5_couple_0 : decode cX5_couple 0 = .ok (.iload_n 1, 1) := by decide +kernel
theorem dX5_couple_1 : decode cX5_couple 1 = .ok (.ifCond .lt 33, 3) := by decide +kernel
theorem dX5_couple_4 : decode cX5_couple 4 = .ok (.iload_n 1, 1) := by decide +kernel
theorem dX5_couple_5 : decode cX5_couple 5 = .ok (.bipush 6, 2) := by decide +kernel
theorem dX5_couple_7 : decode cX5_couple 7 = .ok (.if_icmp .ge 27, 3) := by decide +kernel
theorem dX5_couple_10 : decode cX5_couple 10 = .ok (.iload_n 2, 1) := by decide +kernel
theorem dX5_couple_11 : decode cX5_couple 11 = .ok (.ifCond .lt 23, 3) := by decide +kernel
theorem dX5_couple_14 : decode cX5_couple 14 = .ok (.iload_n 2, 1) := by decide +kernel
theorem dX5_couple_15 : decode cX5_couple 15 = .ok (.bipush 6, 2) := by decide +kernel
theorem dX5_couple_17 : decode cX5_couple 17 = .ok (.if_icmp .ge 17, 3) := by decide +kernel
theorem dX5_couple_20 : decode cX5_couple 20 = .ok (.aload_n 0, 1) := by decide +kernel
theorem dX5_couple_21 : decode cX5_couple 21 = .ok (.getfield 21, 3) := by decide +kernel
theorem dX5_couple_24 : decode cX5_couple 24 = .ok (.iload_n 1, 1) := by decide +kernel
theorem dX5_couple_25 : decode cX5_couple 25 = .ok (.iload_n 2, 1) := by decide +kernel
theorem dX5_couple_26 : decode cX5_couple 26 = .ok (.iastore, 1) := by decide +kernel
theorem dX5_couple_27 : decode cX5_couple 27 = .ok (.aload_n 0, 1) := by decide +kernel
theorem dX5_couple_28 : decode cX5_couple 28 = .ok (.getfield 25, 3) := by decide +kernel
theorem dX5_couple_31 : decode cX5_couple 31 = .ok (.iload_n 2, 1) := by decide +kernel
theorem dX5_couple_32 : decode cX5_couple 32 = .ok (.iload_n 1, 1) := by decide +kernel
theorem dX5_couple_33 : decode cX5_couple 33 = .ok (.iastore, 1) := by decide +kernel
theorem dX5_couple_34 : decode cX5_couple 34 = .ok (.return_, 1) := by decide +kernel
theorem dX5_takeRow_0 : decode cX5_takeRow 0 = .ok (.aload_n 0, 1) := by decide +kernel
theorem dX5_takeRow_1 : decode cX5_takeRow 1 = .ok (.getfield 21, 3) := by decide +kernel
theorem dX5_takeRow_4 : decode cX5_takeRow 4 = .ok (.bipush 6, 2) := by decide +kernel
theorem dX5_takeRow_6 : decode cX5_takeRow 6 = .ok (.invokestatic 74, 3) := by decide +kernel
theorem dX5_takeRow_9 : decode cX5_takeRow 9 = .ok (.aload_n 0, 1) := by decide +kernel
theorem dX5_takeRow_10 : decode cX5_takeRow 10 = .ok (.getfield 25, 3) := by decide +kernel
theorem dX5_takeRow_13 : decode cX5_takeRow 13 = .ok (.bipush 6, 2) := by decide +kernel
theorem dX5_takeRow_15 : decode cX5_takeRow 15 = .ok (.invokestatic 74, 3) := by decide +kernel
theorem dX5_takeRow_18 : decode cX5_takeRow 18 = .ok (.iconst 0, 1) := by decide +kernel
theorem dX5_takeRow_19 : decode cX5_takeRow 19 = .ok (.istore_n 1, 1) := by decide +kernel
theorem dX5_takeRow_20 : decode cX5_takeRow 20 = .ok (.iload_n 1, 1) := by decide +kernel
theorem dX5_takeRow_21 : decode cX5_takeRow 21 = .ok (.aload_n 0, 1) := by decide +kernel
theorem dX5_takeRow_22 : decode cX5_takeRow 22 = .ok (.getfield 12, 3) := by decide +kernel
theorem dX5_takeRow_25 : decode cX5_takeRow 25 = .ok (.getfield 53, 3) := by decide +kernel
theorem dX5_takeRow_28 : decode cX5_takeRow 28 = .ok (.getfield 57, 3) := by decide +kernel
theorem dX5_takeRow_31 : decode cX5_takeRow 31 = .ok (.if_icmp .ge 26, 3) := by decide +kernel
theorem dX5_takeRow_34 : decode cX5_takeRow 34 = .ok (.iload_n 1, 1) := by decide +kernel
theorem dX5_takeRow_35 : decode cX5_takeRow 35 = .ok (.bipush 6, 2) := by decide +kernel
theorem dX5_takeRow_37 : decode cX5_takeRow 37 = .ok (.if_icmp .ge 20, 3) := by decide +kernel
theorem dX5_takeRow_40 : decode cX5_takeRow 40 = .ok (.aload_n 0, 1) := by decide +kernel
theorem dX5_takeRow_41 : decode cX5_takeRow 41 = .ok (.iload_n 1, 1) := by decide +kernel
theorem dX5_takeRow_42 : decode cX5_takeRow 42 = .ok (.aload_n 0, 1) := by decide +kernel
theorem dX5_takeRow_43 : decode cX5_takeRow 43 = .ok (.getfield 34, 3) := by decide +kernel
theorem dX5_takeRow_46 : decode cX5_takeRow 46 = .ok (.iload_n 1, 1) := by decide +kernel
theorem dX5_takeRow_47 : decode cX5_takeRow 47 = .ok (.iaload, 1) := by decide +kernel
theorem dX5_takeRow_48 : decode cX5_takeRow 48 = .ok (.invokevirtual 99, 3) := by decide +kernel
theorem dX5_takeRow_51 : decode cX5_takeRow 51 = .ok (.iinc 1 1, 3) := by decide +kernel
theorem dX5_takeRow_54 : decode cX5_takeRow 54 = .ok (.goto (-34), 3) := by decide +kernel
theorem dX5_takeRow_57 : decode cX5_takeRow 57 = .ok (.return_, 1) := by decide +kernel
set_option maxRecDepth 20000 in
theorem tm_5_49 : tMet TB0 5 49 = some (0, M_X2_copyFrom) := rfl
set_option maxRecDepth 20000 in
theorem tm_5_63 : tMet TB0 5 63 = some (0, M_X2_upOf) := rfl
set_option maxRecDepth 20000 in
theorem tm_5_70 : tMet TB0 5 70 = some (0, M_X2_fitOf) := rfl
set_option maxRecDepth 20000 in
theorem tm_5_74 : tMet TB0 5 74 = some (1, M_J7_fill_53178) := rfl
set_option maxRecDepth 20000 in
theorem tm_5_80 : tMet TB0 5 80 = some (0, M_X5_upsLikedMore) := rfl
set_option maxRecDepth 20000 in
theorem tm_5_83 : tMet TB0 5 83 = some (0, M_X5_downsLikedMore) := rfl
set_option maxRecDepth 20000 in
theorem tm_5_99 : tMet TB0 5 99 = some (0, M_X5_couple) := rfl
/-! ROWS: the class binds a forge, and takes a row -/
def bfC (h : mH) (y : Nat) (g : Int → Int) : Prop := ∀ d : Int, 0 ≤ d → d < nd g → rI h (y + 35) d = tlR g d
theorem bfC_c {S : Nat → Nat → Prop} {h h1 : mH} {y : Nat} {g : Int → Int} (f : frm S h h1) (z : ∀ a k, a = y + 35 → ¬ S a k) (H : bfC h y g) : bfC h1 y g := fun d a b => (frm_r f (z _ _ rfl)).trans (H d a b)
theorem dRk_n {g : Int → Int} {D E d u : Int} (z : ¬ (d = D ∧ u = E)) : dRk g D E d u = dRk g D (E + 1) d u := by
  unfold dRk
  by_cases w : (d < nd g ∧ u < nu g) ∧ (d < D ∨ (d = D ∧ u < E))
  · rw [if_pos w, if_pos (by omega)]
  · rw [if_neg w, if_neg (by omega)]
theorem uRk_n {g : Int → Int} {D E d u : Int} (z : ¬ (d = D ∧ u = E)) : uRk g D E u d = uRk g D (E + 1) u d := by
  unfold uRk
  by_cases w : (d < nd g ∧ u < nu g) ∧ (d < D ∨ (d = D ∧ u < E))
  · rw [if_pos w, if_pos (by omega)]
  · rw [if_neg w, if_neg (by omega)]
theorem dRk_s {g : Int → Int} {D E d u : Int} (e : E = nu g) (u0 : 0 ≤ u) : dRk g D E d u = dRk g (D + 1) 0 d u := by
  unfold dRk
  by_cases w : (d < nd g ∧ u < nu g) ∧ (d < D ∨ (d = D ∧ u < E))
  · rw [if_pos w, if_pos (by omega)]
  · rw [if_neg w, if_neg (by omega)]
theorem uRk_s {g : Int → Int} {D E d u : Int} (e : E = nu g) (u0 : 0 ≤ u) : uRk g D E u d = uRk g (D + 1) 0 u d := by
  unfold uRk
  by_cases w : (d < nd g ∧ u < nu g) ∧ (d < D ∨ (d = D ∧ u < E))
  · rw [if_pos w, if_pos (by omega)]
  · rw [if_neg w, if_neg (by omega)]
theorem dRk_e {g : Int → Int} {D E d u : Int} (e : D = nd g) : dRk g D E d u = dR g d u := by
  unfold dRk dR
  by_cases w : d < nd g ∧ u < nu g
  · rw [if_pos w, if_pos (by omega)]
  · rw [if_neg w, if_neg (by omega)]
theorem uRk_e {g : Int → Int} {D E d u : Int} (e : D = nd g) : uRk g D E u d = uR g u d := by
  unfold uRk uR
  by_cases w : d < nd g ∧ u < nu g
  · rw [if_pos w, if_pos (by omega)]
  · rw [if_neg w, if_neg (by omega)]
def cpR (r : Int → Int) (d u : Int) : Int → Int := fun k => if k = d then u else r k
theorem cpR_w {g r : Int → Int} (h : isRw g r) {d u : Int} (d0 : 0 ≤ d ∧ d < nd g) (u0 : 0 ≤ u ∧ u < nu g) (fr : ∀ e, 0 ≤ e → e < 6 → r e ≠ u) : isRw g (cpR r d u) := fun k a b => by
  unfold cpR
  by_cases q : k = d
  · rw [if_pos q]
    refine Or.inr ⟨by omega, fun e e0 e1 z => ?_⟩
    by_cases w : e = d
    · omega
    · rw [if_neg w] at z; exact absurd z (fr e e0 e1)
  · rw [if_neg q]
    rcases h k a b with z | z
    · exact Or.inl z
    · refine Or.inr ⟨z.1, fun e e0 e1 y => ?_⟩
      by_cases w : e = d
      · rw [if_pos w] at y; exact absurd y.symm (fr k a b)
      · rw [if_neg w] at y; exact z.2 e e0 e1 y
theorem cpR_6 {r : Int → Int} {d u : Int} (pr : r d = 6) (q : u = 6) : ∀ k, 0 ≤ k → k < 6 → cpR r d u k = r k := fun k _ _ => by
  unfold cpR
  by_cases z : k = d
  · rw [if_pos z, z, pr, q]
  · rw [if_neg z]
theorem mrC_cp {h h1 : mH} {y : Nat} {g r : Int → Int} {d u : Int} (H : mrC h y g r) (n : nd g ≤ 6 ∧ nu g ≤ 6) (d0 : 0 ≤ d ∧ d < nd g) (u0 : 0 ≤ u ∧ u < nu g) (r6 : r d = 6) (fr : ∀ e, 0 ≤ e → e < 6 → r e ≠ u) (a : ∀ k : Int, 0 ≤ k → k < 6 → rI h1 (y + 33) k = if k = d then u else r k) (b : ∀ k : Int, 0 ≤ k → k < 6 → rI h1 (y + 34) k = if k = u then d else rI h (y + 34) k) : mrC h1 y g (cpR r d u) := by
  have w := cpR_w H.1.1 d0 u0 fr
  refine ⟨⟨w, isRw_b n.2 w⟩, a, fun k k0 k1 => ?_⟩
  rw [b k k0 k1]
  by_cases q : k = u
  · rw [if_pos q]; exact Or.inr ⟨by omega, by unfold cpR; rw [if_pos rfl]; exact q.symm⟩
  · rw [if_neg q]
    rcases H.2.2 k k0 k1 with z | z
    · refine Or.inl ⟨z.1, fun e e0 e1 => ?_⟩
      unfold cpR
      by_cases v : e = d
      · rw [if_pos v]; omega
      · rw [if_neg v]; exact z.2 e e0 e1
    · refine Or.inr ⟨z.1, ?_⟩
      unfold cpR
      rw [if_neg (fun v => by rw [v, r6] at z; omega)]; exact z.2
theorem mrC_e {h : mH} {y : Nat} {g r r' : Int → Int} (e : ∀ d, 0 ≤ d → d < 6 → r' d = r d) (H : mrC h y g r) : mrC h y g r' := by
  refine ⟨⟨isRw_e H.1.1 e, fun d a b => by rw [e d a b]; exact H.1.2 d a b⟩, fun d a b => by rw [e d a b]; exact H.2.1 d a b, fun u a b => ?_⟩
  rcases H.2.2 u a b with z | z
  · exact Or.inl ⟨z.1, fun d d0 d1 => by rw [e d d0 d1]; exact z.2 d d0 d1⟩
  · exact Or.inr ⟨z.1, by rw [e _ z.1.1 z.1.2]; exact z.2⟩
/-- the first n places of a row -/
def pfR (r : Int → Int) (n : Int) : Int → Int := fun k => if k < n then r k else 6
theorem pfR_fr {g r : Int → Int} (h : isRw g r) (m : nu g ≤ 6) {d : Int} (d0 : 0 ≤ d ∧ d < 6) (q : r d ≠ 6) : ∀ e, 0 ≤ e → e < 6 → pfR r d e ≠ r d := fun e e0 e1 z => by
  rcases h d d0.1 d0.2 with w | w
  · exact q w
  · unfold pfR at z
    by_cases y : e < d
    · rw [if_pos y] at z; have := w.2 e e0 e1 z; omega
    · rw [if_neg y] at z; omega
theorem pfR_s {r : Int → Int} {d : Int} : ∀ k, 0 ≤ k → k < 6 → pfR r (d + 1) k = cpR (pfR r d) d (r d) k := fun k _ _ => by
  unfold pfR cpR
  by_cases q : k = d
  · rw [if_pos q, if_pos (by omega), q]
  · rw [if_neg q]
    show (if k < d + 1 then r k else 6) = if k < d then r k else 6
    by_cases w : k < d
    · rw [if_pos w, if_pos (by omega)]
    · rw [if_neg w, if_neg (by omega)]
theorem pfR_e {g r : Int → Int} (h : isRw g r) {n : Int} (e : nd g ≤ n) : ∀ k, 0 ≤ k → k < 6 → r k = pfR r n k := fun k a b => by
  unfold pfR
  by_cases q : k < n
  · rw [if_pos q]
  · rw [if_neg q]; exact isRw_o h a (by omega) b
theorem pfR_6 {r : Int → Int} (d : Int) : pfR r d d = 6 := if_neg (by omega)
theorem mrC_0 {h : mH} {y : Nat} {g : Int → Int} (r : Int → Int) (a : ∀ k : Int, 0 ≤ k → k < 6 → rI h (y + 33) k = 6) (b : ∀ k : Int, 0 ≤ k → k < 6 → rI h (y + 34) k = 6) : mrC h y g (pfR r 0) := by
  have e : ∀ k, 0 ≤ k → k < 6 → pfR r 0 k = 6 := fun k a b => if_neg (by omega)
  exact ⟨⟨fun d a b => Or.inl (e d a b), fun d a b => by rw [e d a b]; omega⟩, fun d u v => by rw [e d u v]; exact a d u v, fun u u0 u1 => Or.inl ⟨b u u0 u1, fun d d0 d1 => by rw [e d d0 d1]; omega⟩⟩
set_option maxHeartbeats 3000000 in
theorem zp_X5_bind {ad : mA} {dd : Nat} {h : mH} {Q : mQ} {y f : Nat} {g : Int → Int} (hk : mak h y) (hk1 : fgk h f) (HF : isF h f g)   (pd : y + 17 ≤ f ∨ f + 16 ≤ y + 1) (kq : ∀ h1, frm (fun a k => (y + 1 ≤ a ∧ a < y + 17) ∨ a = y + 35 ∨ (y + 39 ≤ a ∧ a ≤ y + 41)) h h1 → (isF h1 (y + 1) g) → (bdC h1 y g) → Q none h1) : mCal TB0 ad (dd + 3) M_X5_bind [.ref y, .ref f] h 0 0 Q := by
  refine ⟨Nat.le_of_ble_eq_true rfl, ?_⟩
  show mEv TB0 ad M_X5_bind (dd + 3) (0, 0) (mCal TB0 ad (dd + 2)) (fun v h' z => z.1 = 0 ∧ Q v h') 0 [some (.ref y), some (.ref f), none, none] [] h (0, 0)
  have FR0 : frm (fun a k => (y + 1 ≤ a ∧ a < y + 17) ∨ a = y + 35 ∨ (y + 39 ≤ a ∧ a ≤ y + 41)) h h := frm_0 h
  have w1 := isF_n HF
  have W := isF_w HF
  refine e_aload_n dX5_bind_0 rfl ?_
  refine e_get (.ref (y + 1)) dX5_bind_1 tf_5_12 (congrArg Prod.fst (ma_s0 hk)) (congrArg va_rf (ma_r0_0 hk)) ?_
  refine e_aload_n dX5_bind_4 rfl ?_
  refine e_callV [.ref _] dX5_bind_5 tm_5_49 rfl (Nat.le_of_ble_eq_true rfl) (congrArg Prod.fst (ma_s1 hk)) (Nat.le_of_ble_eq_true rfl) (Nat.le_refl _) (Nat.le_refl _) rfl (zp_X2_copyFrom (ma_fg1 hk) hk1 (by omega) (fun  h1 f2 p3 => ?_))
  have k4 := lk_q (frm_s f2) hk
  have k5 := lk_q (frm_s f2) hk1
  have H6 := isF_c f2 (fun a k q1 q2 => by omega) HF
  have FR7 := frm_t FR0 (frm_m (S' := (fun a k => (y + 1 ≤ a ∧ a < y + 17) ∨ a = y + 35 ∨ (y + 39 ≤ a ∧ a ≤ y + 41))) f2 (fun a k q => by omega))
  have HN : isF h1 (y + 1) g := isF_eq p3 HF
  refine z_iconst (0) dX5_bind_8 rfl ?_
  refine e_istore_n (L' := [_, _, _, _]) dX5_bind_9 (Nat.le_of_ble_eq_true rfl) rfl ?_
  have lp8 : ∀ (n8 : Nat) (d : Int) (h8 : mH), (nd g - d).toNat = n8 → (mak h8 y) → (fgk h8 f) → (isF h8 (y + 1) g) → (frm (fun a k => (y + 1 ≤ a ∧ a < y + 17) ∨ a = y + 35 ∨ (y + 39 ≤ a ∧ a ≤ y + 41)) h h8) → (0 ≤ d ∧ d ≤ nd g) → (∀ x : Int, 0 ≤ x → x < d → rI h8 (y + 35) x = tlR g x) → (fiN h8 y g d 0) → mEv TB0 ad M_X5_bind (dd + 3) (0, 0) (mCal TB0 ad (dd + 2)) (fun v h' z => z.1 = 0 ∧ Q v h') 10 [some (.ref y), some (.ref f), some (.int (zI d)), none] [] h8 (0, 0) := by
    intro n8
    induction n8 using Nat.strongRecOn with
    | ind n8 ih8 =>
    intro d h8 hn8 k9 k10 H11 FR12 I1 I2 I3
    refine e_iload_n dX5_bind_10 rfl ?_
    refine e_aload_n dX5_bind_11 rfl ?_
    refine e_get (.ref (y + 1)) dX5_bind_12 tf_5_12 (congrArg Prod.fst (ma_s0 k9)) (congrArg va_rf (ma_r0_0 k9)) ?_
    refine e_get (.ref (y + 2)) dX5_bind_15 tf_5_53 (congrArg Prod.fst (ma_s1 k9)) (congrArg va_rf (ma_r1_0 k9)) ?_
    refine z_get (nd g) dX5_bind_18 tf_5_57 (congrArg Prod.fst (ma_s2 k9)) (Or.inl rfl) (isF_nd H11) ?_
    have y13 := isF_n H11
    refine z_icmp_ge 103 dX5_bind_21 rfl ⟨by omega, by omega⟩ ⟨by omega, by omega⟩ (fun c14 => ?_) (fun c14 => ?_)
    · skip
      have HI : fiT h8 y g := fun e x a b c k => I3 e x a b c k (by omega)
      have HP : bfC h8 y g := fun x a b => I2 x a (by omega)
      refine e_aload_n dX5_bind_103 rfl ?_
      refine e_get (.ref (y + 40)) dX5_bind_104 tf_5_43 (congrArg Prod.fst (ma_s0 k9)) (congrArg va_rf (ma_r0_9 k9)) ?_
      refine z_bipush (6) dX5_bind_107 rfl ?_
      refine e_callS [.ref _, .int _] dX5_bind_109 tm_5_74 rfl (Nat.le_of_ble_eq_true rfl) (Nat.le_refl _) (Nat.le_refl _) rfl (zp_fill (ma_s40 k9) (by decide) ⟨by omega, by omega⟩ (fun h15 f16 e17 => ?_))
      have k18 := lk_q (frm_s f16) k9
      have k19 := lk_q (frm_s f16) k10
      have H20 := isF_c f16 (fun a k q1 q2 => by omega) H11
      have H21 := fiT_c f16 (fun a k q => by omega) HI
      have H22 := bfC_c f16 (fun a k q => by omega) HP
      have FR23 := frm_t FR12 (frm_m (S' := (fun a k => (y + 1 ≤ a ∧ a < y + 17) ∨ a = y + 35 ∨ (y + 39 ≤ a ∧ a ≤ y + 41))) f16 (fun a k q => by omega))
      refine e_aload_n dX5_bind_112 rfl ?_
      refine e_get (.ref (y + 41)) dX5_bind_113 tf_5_46 (congrArg Prod.fst (ma_s0 k18)) (congrArg va_rf (ma_r0_10 k18)) ?_
      refine z_bipush (6) dX5_bind_116 rfl ?_
      refine e_callS [.ref _, .int _] dX5_bind_118 tm_5_74 rfl (Nat.le_of_ble_eq_true rfl) (Nat.le_refl _) (Nat.le_refl _) rfl (zp_fill (ma_s41 k18) (by decide) ⟨by omega, by omega⟩ (fun h24 f25 e26 => ?_))
      have k27 := lk_q (frm_s f25) k18
      have k28 := lk_q (frm_s f25) k19
      have H29 := isF_c f25 (fun a k q1 q2 => by omega) H20
      have H30 := fiT_c f25 (fun a k q => by omega) H21
      have H31 := bfC_c f25 (fun a k q => by omega) H22
      have FR32 := frm_t FR23 (frm_m (S' := (fun a k => (y + 1 ≤ a ∧ a < y + 17) ∨ a = y + 35 ∨ (y + 39 ≤ a ∧ a ≤ y + 41))) f25 (fun a k q => by omega))
      refine z_iconst (0) dX5_bind_121 rfl ?_
      refine e_istore_n (L' := [_, _, _, _]) dX5_bind_122 (Nat.le_of_ble_eq_true rfl) rfl ?_
      have lp33 : ∀ (n33 : Nat) (p : Int) (h33 : mH), (nd g - p).toNat = n33 → (mak h33 y) → (fgk h33 f) → (isF h33 (y + 1) g) → (fiT h33 y g) → (bfC h33 y g) → (frm (fun a k => (y + 1 ≤ a ∧ a < y + 17) ∨ a = y + 35 ∨ (y + 39 ≤ a ∧ a ≤ y + 41)) h h33) → (0 ≤ p ∧ p ≤ nd g) → (rkN h33 y g p 0) → mEv TB0 ad M_X5_bind (dd + 3) (0, 0) (mCal TB0 ad (dd + 2)) (fun v h' z => z.1 = 0 ∧ Q v h') 123 [some (.ref y), some (.ref f), some (.int (zI p)), none] [] h33 (0, 0) := by
        intro n33
        induction n33 using Nat.strongRecOn with
        | ind n33 ih33 =>
        intro p h33 hn33 k34 k35 H36 H37 H38 FR39 K1 K3
        refine e_iload_n dX5_bind_123 rfl ?_
        refine e_aload_n dX5_bind_124 rfl ?_
        refine e_get (.ref (y + 1)) dX5_bind_125 tf_5_12 (congrArg Prod.fst (ma_s0 k34)) (congrArg va_rf (ma_r0_0 k34)) ?_
        refine e_get (.ref (y + 2)) dX5_bind_128 tf_5_53 (congrArg Prod.fst (ma_s1 k34)) (congrArg va_rf (ma_r1_0 k34)) ?_
        refine z_get (nd g) dX5_bind_131 tf_5_57 (congrArg Prod.fst (ma_s2 k34)) (Or.inl rfl) (isF_nd H36) ?_
        have y40 := isF_n H36
        refine z_icmp_ge 199 dX5_bind_134 rfl ⟨by omega, by omega⟩ ⟨by omega, by omega⟩ (fun c41 => ?_) (fun c41 => ?_)
        · skip
          refine e_vret dX5_bind_199 rfl ⟨rfl, ?_⟩
          exact kq _ FR39 H36 ⟨W, H38, H37, fun d u a b c k => (K3.1 d u a b c k).trans (dRk_e (by omega)), fun u d a b c k => (K3.2 u d a b c k).trans (uRk_e (by omega))⟩
        · skip
          refine z_iconst (0) dX5_bind_137 rfl ?_
          refine e_istore_n (L' := [_, _, _, _]) dX5_bind_138 (Nat.le_of_ble_eq_true rfl) rfl ?_
          have lp42 : ∀ (n42 : Nat) (q : Int) (h42 : mH), (nu g - q).toNat = n42 → (mak h42 y) → (fgk h42 f) → (isF h42 (y + 1) g) → (fiT h42 y g) → (bfC h42 y g) → (frm (fun a k => (y + 1 ≤ a ∧ a < y + 17) ∨ a = y + 35 ∨ (y + 39 ≤ a ∧ a ≤ y + 41)) h h42) → (0 ≤ q ∧ q ≤ nu g) → (rkN h42 y g p q) → mEv TB0 ad M_X5_bind (dd + 3) (0, 0) (mCal TB0 ad (dd + 2)) (fun v h' z => z.1 = 0 ∧ Q v h') 139 [some (.ref y), some (.ref f), some (.int (zI p)), some (.int (zI q))] [] h42 (0, 0) := by
            intro n42
            induction n42 using Nat.strongRecOn with
            | ind n42 ih42 =>
            intro q h42 hn42 k43 k44 H45 H46 H47 FR48 L1 L3
            refine e_iload_n dX5_bind_139 rfl ?_
            refine e_aload_n dX5_bind_140 rfl ?_
            refine e_get (.ref (y + 1)) dX5_bind_141 tf_5_12 (congrArg Prod.fst (ma_s0 k43)) (congrArg va_rf (ma_r0_0 k43)) ?_
            refine e_get (.ref (y + 8)) dX5_bind_144 tf_5_67 (congrArg Prod.fst (ma_s1 k43)) (congrArg va_rf (ma_r1_1 k43)) ?_
            refine z_get (nu g) dX5_bind_147 tf_5_57 (congrArg Prod.fst (ma_s8 k43)) (Or.inl rfl) (isF_nu H45) ?_
            have y49 := isF_n H45
            refine z_icmp_ge 193 dX5_bind_150 rfl ⟨by omega, by omega⟩ ⟨by omega, by omega⟩ (fun c50 => ?_) (fun c50 => ?_)
            · skip
              refine z_iinc (L' := [_, _, _, _]) dX5_bind_193 rfl rfl ?_
              refine e_goto 123 dX5_bind_196 rfl ?_
              exact mEv_wk (by exact ⟨Or.inr rfl, Or.inr rfl, Or.inr rfl, Or.inl rfl, trivial⟩) (ih33 _ (by omega) (p + 1) h42 rfl k43 k44 H45 H46 H47 FR48 (by omega) (⟨fun d u a b c k => (L3.1 d u a b c k).trans (dRk_s (by omega) c), fun u d a b c k => (L3.2 u d a b c k).trans (uRk_s (by omega) a)⟩))
            · skip
              refine e_aload_n dX5_bind_153 rfl ?_
              refine e_get (.ref (y + 40)) dX5_bind_154 tf_5_43 (congrArg Prod.fst (ma_s0 k43)) (congrArg va_rf (ma_r0_9 k43)) ?_
              refine e_iload_n dX5_bind_157 rfl ?_
              refine z_bipush (7) dX5_bind_158 rfl ?_
              refine z_imul dX5_bind_160 ?_
              refine e_iload_n dX5_bind_161 rfl ?_
              refine z_iadd dX5_bind_162 ?_
              refine e_aload_n dX5_bind_163 rfl ?_
              refine e_iload_n dX5_bind_164 rfl ?_
              refine e_iload_n dX5_bind_165 rfl ?_
              refine e_callV [.int _, .int _] dX5_bind_166 tm_5_80 rfl (Nat.le_of_ble_eq_true rfl) (congrArg Prod.fst (ma_s0 k43)) (Nat.le_of_ble_eq_true rfl) (Nat.le_refl _) (Nat.le_refl _) rfl (zp_X5_upsLikedMore k43 H45 H46 p ⟨by omega, by omega⟩ q ⟨by omega, by omega⟩ (by omega) (by omega) ?_)
              have y51 := (@dnR_b g p q (by omega) (by omega) (by omega))
              refine z_ist dX5_bind_169 (ma_s40 k43) (by decide) (by omega) (by omega) (fun h52 e53 => ?_)
              have f54 := frm_1 e53
              have k55 := lk_q (frm_s f54) k43
              have k56 := lk_q (frm_s f54) k44
              have H57 := isF_c f54 (fun a k q1 q2 => by omega) H45
              have H58 := fiT_c f54 (fun a k q => by omega) H46
              have H59 := bfC_c f54 (fun a k q => by omega) H47
              have FR60 := frm_t FR48 (frm_m (S' := (fun a k => (y + 1 ≤ a ∧ a < y + 17) ∨ a = y + 35 ∨ (y + 39 ≤ a ∧ a ≤ y + 41))) f54 (fun a k q => by omega))
              refine e_aload_n dX5_bind_170 rfl ?_
              refine e_get (.ref (y + 41)) dX5_bind_171 tf_5_46 (congrArg Prod.fst (ma_s0 k55)) (congrArg va_rf (ma_r0_10 k55)) ?_
              refine e_iload_n dX5_bind_174 rfl ?_
              refine z_bipush (7) dX5_bind_175 rfl ?_
              refine z_imul dX5_bind_177 ?_
              refine e_iload_n dX5_bind_178 rfl ?_
              refine z_iadd dX5_bind_179 ?_
              refine e_aload_n dX5_bind_180 rfl ?_
              refine e_iload_n dX5_bind_181 rfl ?_
              refine e_iload_n dX5_bind_182 rfl ?_
              refine e_callV [.int _, .int _] dX5_bind_183 tm_5_83 rfl (Nat.le_of_ble_eq_true rfl) (congrArg Prod.fst (ma_s0 k55)) (Nat.le_of_ble_eq_true rfl) (Nat.le_refl _) (Nat.le_refl _) rfl (zp_X5_downsLikedMore k55 H57 H58 q ⟨by omega, by omega⟩ p ⟨by omega, by omega⟩ (by omega) (by omega) ?_)
              have y61 := (@urN_b g q p (by omega) (by omega) (by omega))
              refine z_ist dX5_bind_186 (ma_s41 k55) (by decide) (by omega) (by omega) (fun h62 e63 => ?_)
              have f64 := frm_1 e63
              have k65 := lk_q (frm_s f64) k55
              have k66 := lk_q (frm_s f64) k56
              have H67 := isF_c f64 (fun a k q1 q2 => by omega) H57
              have H68 := fiT_c f64 (fun a k q => by omega) H58
              have H69 := bfC_c f64 (fun a k q => by omega) H59
              have FR70 := frm_t FR60 (frm_m (S' := (fun a k => (y + 1 ≤ a ∧ a < y + 17) ∨ a = y + 35 ∨ (y + 39 ≤ a ∧ a ≤ y + 41))) f64 (fun a k q => by omega))
              refine z_iinc (L' := [_, _, _, _]) dX5_bind_187 rfl rfl ?_
              refine e_goto 139 dX5_bind_190 rfl ?_
              exact ih42 _ (by omega) (q + 1) h62 rfl k65 k66 H67 H68 H69 FR70 (by omega) (⟨fun d u a b c k => by
                        by_cases z : d = p ∧ u = q
                        · rw [z.1, z.2]; exact (((frm_r f64 (by omega)).trans (rI_eq e53 ⟨by omega, by omega⟩))).trans (show _ = dRk g p (q + 1) p q from (if_pos (by omega)).symm)
                        · exact ((((frm_r f64 (by omega)).trans (frm_r f54 (by omega)))).trans (L3.1 d u a b c k)).trans (dRk_n z), fun u d a b c k => by
                        by_cases z : d = p ∧ u = q
                        · rw [z.1, z.2]; exact ((rI_eq e63 ⟨by omega, by omega⟩)).trans (show _ = uRk g p (q + 1) q p from (if_pos (by omega)).symm)
                        · exact ((((frm_r f64 (by omega)).trans (frm_r f54 (by omega)))).trans (L3.2 u d a b c k)).trans (uRk_n z)⟩)
          exact lp42 _ 0 h33 rfl k34 k35 H36 H37 H38 FR39 (by omega) K3
      exact lp33 _ 0 h24 rfl k27 k28 H29 H30 H31 FR32 (by omega) (⟨fun d u a b c k => (((frm_r f25 (by omega))).trans (e17 (d * 7 + u) (by omega) (by omega))).trans (show (6 : Int) = dRk g 0 0 d u from (if_neg (by omega)).symm), fun u d a b c k => ((rfl).trans (e26 (u * 7 + d) (by omega) (by omega))).trans (show (6 : Int) = uRk g 0 0 u d from (if_neg (by omega)).symm)⟩)
    · skip
      refine e_aload_n dX5_bind_24 rfl ?_
      refine e_get (.ref (y + 35)) dX5_bind_25 tf_5_28 (congrArg Prod.fst (ma_s0 k9)) (congrArg va_rf (ma_r0_4 k9)) ?_
      refine e_iload_n dX5_bind_28 rfl ?_
      refine e_aload_n dX5_bind_29 rfl ?_
      refine e_get (.ref (y + 1)) dX5_bind_30 tf_5_12 (congrArg Prod.fst (ma_s0 k9)) (congrArg va_rf (ma_r0_0 k9)) ?_
      refine e_iload_n dX5_bind_33 rfl ?_
      refine e_callV [.int _] dX5_bind_34 tm_5_63 rfl (Nat.le_of_ble_eq_true rfl) (congrArg Prod.fst (ma_s1 k9)) (Nat.le_of_ble_eq_true rfl) (Nat.le_refl _) (Nat.le_refl _) rfl (zp_X2_upOf (ma_fg1 k9) H11 d ⟨by omega, by omega⟩ ?_)
      have y71 := upv_s (isF_w H11) d
      refine z_iconst (-1) dX5_bind_37 rfl ?_
      refine z_icmp_ne 46 dX5_bind_38 rfl ⟨by omega, by omega⟩ ⟨by omega, by omega⟩ (fun c72 => ?_) (fun c72 => ?_)
      · skip
        refine e_aload_n dX5_bind_46 rfl ?_
        refine e_get (.ref (y + 1)) dX5_bind_47 tf_5_12 (congrArg Prod.fst (ma_s0 k9)) (congrArg va_rf (ma_r0_0 k9)) ?_
        refine e_iload_n dX5_bind_50 rfl ?_
        refine e_callV [.int _] dX5_bind_51 tm_5_63 rfl (Nat.le_of_ble_eq_true rfl) (congrArg Prod.fst (ma_s1 k9)) (Nat.le_of_ble_eq_true rfl) (Nat.le_refl _) (Nat.le_refl _) rfl (zp_X2_upOf (ma_fg1 k9) H11 d ⟨by omega, by omega⟩ ?_)
        have y73 := upv_s (isF_w H11) d
        refine z_ist dX5_bind_54 (ma_s35 k9) (by decide) (by omega) (by omega) (fun h74 e75 => ?_)
        have f76 := frm_1 e75
        have k77 := lk_q (frm_s f76) k9
        have k78 := lk_q (frm_s f76) k10
        have H79 := isF_c f76 (fun a k q1 q2 => by omega) H11
        have FR80 := frm_t FR12 (frm_m (S' := (fun a k => (y + 1 ≤ a ∧ a < y + 17) ∨ a = y + 35 ∨ (y + 39 ≤ a ∧ a ≤ y + 41))) f76 (fun a k q => by omega))
        refine z_iconst (0) dX5_bind_55 rfl ?_
        refine e_istore_n (L' := [_, _, _, _]) dX5_bind_56 (Nat.le_of_ble_eq_true rfl) rfl ?_
        have lp81 : ∀ (n81 : Nat) (u : Int) (h81 : mH), (nu g - u).toNat = n81 → (mak h81 y) → (fgk h81 f) → (isF h81 (y + 1) g) → (frm (fun a k => (y + 1 ≤ a ∧ a < y + 17) ∨ a = y + 35 ∨ (y + 39 ≤ a ∧ a ≤ y + 41)) h h81) → (0 ≤ u ∧ u ≤ nu g) → (∀ x : Int, 0 ≤ x → x < d + 1 → rI h81 (y + 35) x = tlR g x) → (fiN h81 y g d u) → mEv TB0 ad M_X5_bind (dd + 3) (0, 0) (mCal TB0 ad (dd + 2)) (fun v h' z => z.1 = 0 ∧ Q v h') 57 [some (.ref y), some (.ref f), some (.int (zI d)), some (.int (zI u))] [] h81 (0, 0) := by
          intro n81
          induction n81 using Nat.strongRecOn with
          | ind n81 ih81 =>
          intro u h81 hn81 k82 k83 H84 FR85 J1 J2 J3
          refine e_iload_n dX5_bind_57 rfl ?_
          refine e_aload_n dX5_bind_58 rfl ?_
          refine e_get (.ref (y + 1)) dX5_bind_59 tf_5_12 (congrArg Prod.fst (ma_s0 k82)) (congrArg va_rf (ma_r0_0 k82)) ?_
          refine e_get (.ref (y + 8)) dX5_bind_62 tf_5_67 (congrArg Prod.fst (ma_s1 k82)) (congrArg va_rf (ma_r1_1 k82)) ?_
          refine z_get (nu g) dX5_bind_65 tf_5_57 (congrArg Prod.fst (ma_s8 k82)) (Or.inl rfl) (isF_nu H84) ?_
          have y86 := isF_n H84
          refine z_icmp_ge 97 dX5_bind_68 rfl ⟨by omega, by omega⟩ ⟨by omega, by omega⟩ (fun c87 => ?_) (fun c87 => ?_)
          · skip
            refine z_iinc (L' := [_, _, _, _]) dX5_bind_97 rfl rfl ?_
            refine e_goto 10 dX5_bind_100 rfl ?_
            exact mEv_wk (by exact ⟨Or.inr rfl, Or.inr rfl, Or.inr rfl, Or.inl rfl, trivial⟩) (ih8 _ (by omega) (d + 1) h81 rfl k82 k83 H84 FR85 (by omega) (fun x a b => J2 x a (by omega)) (fun e x a b c k q => J3 e x a b c k (by omega)))
          · skip
            refine e_aload_n dX5_bind_71 rfl ?_
            refine e_get (.ref (y + 39)) dX5_bind_72 tf_5_40 (congrArg Prod.fst (ma_s0 k82)) (congrArg va_rf (ma_r0_8 k82)) ?_
            refine e_iload_n dX5_bind_75 rfl ?_
            refine z_bipush (7) dX5_bind_76 rfl ?_
            refine z_imul dX5_bind_78 ?_
            refine e_iload_n dX5_bind_79 rfl ?_
            refine z_iadd dX5_bind_80 ?_
            refine e_aload_n dX5_bind_81 rfl ?_
            refine e_get (.ref (y + 1)) dX5_bind_82 tf_5_12 (congrArg Prod.fst (ma_s0 k82)) (congrArg va_rf (ma_r0_0 k82)) ?_
            refine e_iload_n dX5_bind_85 rfl ?_
            refine e_iload_n dX5_bind_86 rfl ?_
            refine e_callV [.int _, .int _] dX5_bind_87 tm_5_70 rfl (Nat.le_of_ble_eq_true rfl) (congrArg Prod.fst (ma_s1 k82)) (Nat.le_of_ble_eq_true rfl) (Nat.le_refl _) (Nat.le_refl _) rfl (zp_X2_fitOf (ma_fg1 k82) H84 d ⟨by omega, by omega⟩ u ⟨by omega, by omega⟩ ?_)
            have y88 := fitC_s g d u
            refine z_ist dX5_bind_90 (ma_s39 k82) (by decide) (by omega) (by omega) (fun h89 e90 => ?_)
            have f91 := frm_1 e90
            have k92 := lk_q (frm_s f91) k82
            have k93 := lk_q (frm_s f91) k83
            have H94 := isF_c f91 (fun a k q1 q2 => by omega) H84
            have FR95 := frm_t FR85 (frm_m (S' := (fun a k => (y + 1 ≤ a ∧ a < y + 17) ∨ a = y + 35 ∨ (y + 39 ≤ a ∧ a ≤ y + 41))) f91 (fun a k q => by omega))
            refine z_iinc (L' := [_, _, _, _]) dX5_bind_91 rfl rfl ?_
            refine e_goto 57 dX5_bind_94 rfl ?_
            exact ih81 _ (by omega) (u + 1) h89 rfl k92 k93 H94 FR95 (by omega) (fun x a b => ((frm_r f91 (by omega))).trans (J2 x a b)) (fun e x a b c k q => by
                      by_cases z : e = d ∧ x = u
                      · rw [z.1, z.2]; refine ((rI_eq e90 ⟨by omega, by omega⟩)).trans ?_; exact fitC_in (by unfold inF; omega)
                      · exact ((frm_r f91 (by omega))).trans (J3 e x a b c k (by omega)))
        exact lp81 _ 0 h74 rfl k77 k78 H79 FR80 (by omega) (fun x a b => by
                  by_cases q : x = d
                  · rw [q]; refine ((rI_eq e75 ⟨by omega, by omega⟩)).trans ?_; have tb := tlR_b W d; omega
                  · exact ((frm_r f76 (by omega))).trans (I2 x a (by omega))) (fun e x a b c k q => ((frm_r f76 (by omega))).trans (I3 e x a b c k q))
      · skip
        refine z_bipush (6) dX5_bind_41 rfl ?_
        refine e_goto 54 dX5_bind_43 rfl ?_
        refine z_ist dX5_bind_54 (ma_s35 k9) (by decide) (by omega) (by omega) (fun h96 e97 => ?_)
        have f98 := frm_1 e97
        have k99 := lk_q (frm_s f98) k9
        have k100 := lk_q (frm_s f98) k10
        have H101 := isF_c f98 (fun a k q1 q2 => by omega) H11
        have FR102 := frm_t FR12 (frm_m (S' := (fun a k => (y + 1 ≤ a ∧ a < y + 17) ∨ a = y + 35 ∨ (y + 39 ≤ a ∧ a ≤ y + 41))) f98 (fun a k q => by omega))
        refine z_iconst (0) dX5_bind_55 rfl ?_
        refine e_istore_n (L' := [_, _, _, _]) dX5_bind_56 (Nat.le_of_ble_eq_true rfl) rfl ?_
        have lp103 : ∀ (n103 : Nat) (u : Int) (h103 : mH), (nu g - u).toNat = n103 → (mak h103 y) → (fgk h103 f) → (isF h103 (y + 1) g) → (frm (fun a k => (y + 1 ≤ a ∧ a < y + 17) ∨ a = y + 35 ∨ (y + 39 ≤ a ∧ a ≤ y + 41)) h h103) → (0 ≤ u ∧ u ≤ nu g) → (∀ x : Int, 0 ≤ x → x < d + 1 → rI h103 (y + 35) x = tlR g x) → (fiN h103 y g d u) → mEv TB0 ad M_X5_bind (dd + 3) (0, 0) (mCal TB0 ad (dd + 2)) (fun v h' z => z.1 = 0 ∧ Q v h') 57 [some (.ref y), some (.ref f), some (.int (zI d)), some (.int (zI u))] [] h103 (0, 0) := by
          intro n103
          induction n103 using Nat.strongRecOn with
          | ind n103 ih103 =>
          intro u h103 hn103 k104 k105 H106 FR107 J1 J2 J3
          refine e_iload_n dX5_bind_57 rfl ?_
          refine e_aload_n dX5_bind_58 rfl ?_
          refine e_get (.ref (y + 1)) dX5_bind_59 tf_5_12 (congrArg Prod.fst (ma_s0 k104)) (congrArg va_rf (ma_r0_0 k104)) ?_
          refine e_get (.ref (y + 8)) dX5_bind_62 tf_5_67 (congrArg Prod.fst (ma_s1 k104)) (congrArg va_rf (ma_r1_1 k104)) ?_
          refine z_get (nu g) dX5_bind_65 tf_5_57 (congrArg Prod.fst (ma_s8 k104)) (Or.inl rfl) (isF_nu H106) ?_
          have y108 := isF_n H106
          refine z_icmp_ge 97 dX5_bind_68 rfl ⟨by omega, by omega⟩ ⟨by omega, by omega⟩ (fun c109 => ?_) (fun c109 => ?_)
          · skip
            refine z_iinc (L' := [_, _, _, _]) dX5_bind_97 rfl rfl ?_
            refine e_goto 10 dX5_bind_100 rfl ?_
            exact mEv_wk (by exact ⟨Or.inr rfl, Or.inr rfl, Or.inr rfl, Or.inl rfl, trivial⟩) (ih8 _ (by omega) (d + 1) h103 rfl k104 k105 H106 FR107 (by omega) (fun x a b => J2 x a (by omega)) (fun e x a b c k q => J3 e x a b c k (by omega)))
          · skip
            refine e_aload_n dX5_bind_71 rfl ?_
            refine e_get (.ref (y + 39)) dX5_bind_72 tf_5_40 (congrArg Prod.fst (ma_s0 k104)) (congrArg va_rf (ma_r0_8 k104)) ?_
            refine e_iload_n dX5_bind_75 rfl ?_
            refine z_bipush (7) dX5_bind_76 rfl ?_
            refine z_imul dX5_bind_78 ?_
            refine e_iload_n dX5_bind_79 rfl ?_
            refine z_iadd dX5_bind_80 ?_
            refine e_aload_n dX5_bind_81 rfl ?_
            refine e_get (.ref (y + 1)) dX5_bind_82 tf_5_12 (congrArg Prod.fst (ma_s0 k104)) (congrArg va_rf (ma_r0_0 k104)) ?_
            refine e_iload_n dX5_bind_85 rfl ?_
            refine e_iload_n dX5_bind_86 rfl ?_
            refine e_callV [.int _, .int _] dX5_bind_87 tm_5_70 rfl (Nat.le_of_ble_eq_true rfl) (congrArg Prod.fst (ma_s1 k104)) (Nat.le_of_ble_eq_true rfl) (Nat.le_refl _) (Nat.le_refl _) rfl (zp_X2_fitOf (ma_fg1 k104) H106 d ⟨by omega, by omega⟩ u ⟨by omega, by omega⟩ ?_)
            have y110 := fitC_s g d u
            refine z_ist dX5_bind_90 (ma_s39 k104) (by decide) (by omega) (by omega) (fun h111 e112 => ?_)
            have f113 := frm_1 e112
            have k114 := lk_q (frm_s f113) k104
            have k115 := lk_q (frm_s f113) k105
            have H116 := isF_c f113 (fun a k q1 q2 => by omega) H106
            have FR117 := frm_t FR107 (frm_m (S' := (fun a k => (y + 1 ≤ a ∧ a < y + 17) ∨ a = y + 35 ∨ (y + 39 ≤ a ∧ a ≤ y + 41))) f113 (fun a k q => by omega))
            refine z_iinc (L' := [_, _, _, _]) dX5_bind_91 rfl rfl ?_
            refine e_goto 57 dX5_bind_94 rfl ?_
            exact ih103 _ (by omega) (u + 1) h111 rfl k114 k115 H116 FR117 (by omega) (fun x a b => ((frm_r f113 (by omega))).trans (J2 x a b)) (fun e x a b c k q => by
                      by_cases z : e = d ∧ x = u
                      · rw [z.1, z.2]; refine ((rI_eq e112 ⟨by omega, by omega⟩)).trans ?_; exact fitC_in (by unfold inF; omega)
                      · exact ((frm_r f113 (by omega))).trans (J3 e x a b c k (by omega)))
        exact lp103 _ 0 h96 rfl k99 k100 H101 FR102 (by omega) (fun x a b => by
                  by_cases q : x = d
                  · rw [q]; refine ((rI_eq e97 ⟨by omega, by omega⟩)).trans ?_; have tb := tlR_b W d; omega
                  · exact ((frm_r f98 (by omega))).trans (I2 x a (by omega))) (fun e x a b c k q => ((frm_r f98 (by omega))).trans (I3 e x a b c k q))
  exact lp8 _ 0 h1 rfl k4 k5 HN FR7 (by omega) (fun x a b => by omega) (fun e x a b c k q => by omega)
set_option maxHeartbeats 400000 in
theorem zp_X5_couple {ad : mA} {dd : Nat} {h : mH} {Q : mQ} {y : Nat} {g r : Int → Int} (hk : mak h y)  (d : Int) (d_r : -2147483648 ≤ d ∧ d < 2147483648) (u : Int) (u_r : -2147483648 ≤ u ∧ u < 2147483648) (HW : mrC h y g r) (n6 : nd g ≤ 6 ∧ nu g ≤ 6) (p1 : 0 ≤ d ∧ d < nd g) (p2 : u = 6 ∨ (0 ≤ u ∧ u < nu g)) (pr : r d = 6) (pf : u ≠ 6 → ∀ e, 0 ≤ e → e < 6 → r e ≠ u) (kq : ∀ h1, frm (fun a k => a = y + 33 ∨ a = y + 34) h h1 → (mrC h1 y g (cpR r d u)) → Q none h1) : mCal TB0 ad (dd + 1) M_X5_couple [.ref y, .int (zI d), .int (zI u)] h 0 0 Q := by
  refine ⟨Nat.le_of_ble_eq_true rfl, ?_⟩
  show mEv TB0 ad M_X5_couple (dd + 1) (0, 0) (mCal TB0 ad (dd + 0)) (fun v h' z => z.1 = 0 ∧ Q v h') 0 [some (.ref y), some (.int (zI d)), some (.int (zI u))] [] h (0, 0)
  have FR0 : frm (fun a k => a = y + 33 ∨ a = y + 34) h h := frm_0 h
  refine e_iload_n dX5_couple_0 rfl ?_
  refine z_if_lt 34 dX5_couple_1 rfl ⟨by omega, by omega⟩ (fun c1 => ?_) (fun c1 => ?_)
  · skip
    refine e_vret dX5_couple_34 rfl ⟨rfl, ?_⟩
    exact kq _ FR0 (mrC_e (cpR_6 pr (by omega)) HW)
  · skip
    refine e_iload_n dX5_couple_4 rfl ?_
    refine z_bipush (6) dX5_couple_5 rfl ?_
    refine z_icmp_ge 34 dX5_couple_7 rfl ⟨by omega, by omega⟩ ⟨by omega, by omega⟩ (fun c2 => ?_) (fun c2 => ?_)
    · skip
      refine e_vret dX5_couple_34 rfl ⟨rfl, ?_⟩
      exact kq _ FR0 (mrC_e (cpR_6 pr (by omega)) HW)
    · skip
      refine e_iload_n dX5_couple_10 rfl ?_
      refine z_if_lt 34 dX5_couple_11 rfl ⟨by omega, by omega⟩ (fun c3 => ?_) (fun c3 => ?_)
      · skip
        refine e_vret dX5_couple_34 rfl ⟨rfl, ?_⟩
        exact kq _ FR0 (mrC_e (cpR_6 pr (by omega)) HW)
      · skip
        refine e_iload_n dX5_couple_14 rfl ?_
        refine z_bipush (6) dX5_couple_15 rfl ?_
        refine z_icmp_ge 34 dX5_couple_17 rfl ⟨by omega, by omega⟩ ⟨by omega, by omega⟩ (fun c4 => ?_) (fun c4 => ?_)
        · skip
          refine e_vret dX5_couple_34 rfl ⟨rfl, ?_⟩
          exact kq _ FR0 (mrC_e (cpR_6 pr (by omega)) HW)
        · skip
          refine e_aload_n dX5_couple_20 rfl ?_
          refine e_get (.ref (y + 33)) dX5_couple_21 tf_5_21 (congrArg Prod.fst (ma_s0 hk)) (congrArg va_rf (ma_r0_2 hk)) ?_
          refine e_iload_n dX5_couple_24 rfl ?_
          refine e_iload_n dX5_couple_25 rfl ?_
          refine z_ist dX5_couple_26 (ma_s33 hk) (by decide) (by omega) (by omega) (fun h5 e6 => ?_)
          have f7 := frm_1 e6
          have k8 := lk_q (frm_s f7) hk
          have FR9 := frm_t FR0 (frm_m (S' := (fun a k => a = y + 33 ∨ a = y + 34)) f7 (fun a k q => by omega))
          refine e_aload_n dX5_couple_27 rfl ?_
          refine e_get (.ref (y + 34)) dX5_couple_28 tf_5_25 (congrArg Prod.fst (ma_s0 k8)) (congrArg va_rf (ma_r0_3 k8)) ?_
          refine e_iload_n dX5_couple_31 rfl ?_
          refine e_iload_n dX5_couple_32 rfl ?_
          refine z_ist dX5_couple_33 (ma_s34 k8) (by decide) (by omega) (by omega) (fun h10 e11 => ?_)
          have f12 := frm_1 e11
          have k13 := lk_q (frm_s f12) k8
          have FR14 := frm_t FR9 (frm_m (S' := (fun a k => a = y + 33 ∨ a = y + 34)) f12 (fun a k q => by omega))
          refine e_vret dX5_couple_34 rfl ⟨rfl, ?_⟩
          exact kq _ FR14 (mrC_cp HW (by omega) p1 (by omega) pr (pf (by omega)) (fun k a c => by
            by_cases z : k = d
            · rw [if_pos z, z]; exact ((frm_r f12 (by omega)).trans (rI_eq e6 ⟨by omega, by omega⟩))
            · rw [if_neg z]; exact (((frm_r f12 (by omega)).trans (frm_r f7 (by omega)))).trans (HW.2.1 k a c)) (fun k a c => by
            by_cases z : k = u
            · rw [if_pos z, z]; exact (rI_eq e11 ⟨by omega, by omega⟩)
            · rw [if_neg z]; exact ((frm_r f12 (by omega)).trans (frm_r f7 (by omega)))))
set_option maxHeartbeats 400000 in
theorem zp_X5_takePairs {ad : mA} {dd : Nat} {h : mH} {Q : mQ} {y : Nat} {g : Int → Int} (hk : mak h y) (HF : isF h (y + 1) g) (HD : bdC h y g)   (p6 : mrC h y g (pfR (tlR g) 0)) (kq : ∀ h1, frm (fun a k => a = y + 33 ∨ a = y + 34) h h1 → (mrC h1 y g (tlR g)) → Q none h1) : mCal TB0 ad (dd + 2) M_X5_takePairs [.ref y] h 0 0 Q := by
  refine ⟨Nat.le_of_ble_eq_true rfl, ?_⟩
  show mEv TB0 ad M_X5_takePairs (dd + 2) (0, 0) (mCal TB0 ad (dd + 1)) (fun v h' z => z.1 = 0 ∧ Q v h') 0 [some (.ref y), none] [] h (0, 0)
  have FR0 : frm (fun a k => a = y + 33 ∨ a = y + 34) h h := frm_0 h
  have w1 := isF_n HF
  have W := isF_w HF
  refine z_iconst (0) dX5_takePairs_0 rfl ?_
  refine e_istore_n (L' := [_, _]) dX5_takePairs_1 (Nat.le_of_ble_eq_true rfl) rfl ?_
  have lp1 : ∀ (n1 : Nat) (d : Int) (h1 : mH), (nd g - d).toNat = n1 → (mak h1 y) → (isF h1 (y + 1) g) → (bdC h1 y g) → (frm (fun a k => a = y + 33 ∨ a = y + 34) h h1) → (0 ≤ d ∧ d ≤ nd g) → (mrC h1 y g (pfR (tlR g) d)) → mEv TB0 ad M_X5_takePairs (dd + 2) (0, 0) (mCal TB0 ad (dd + 1)) (fun v h' z => z.1 = 0 ∧ Q v h') 2 [some (.ref y), some (.int (zI d))] [] h1 (0, 0) := by
    intro n1
    induction n1 using Nat.strongRecOn with
    | ind n1 ih1 =>
    intro d h1 hn1 k2 H3 H4 FR5 I1 I3
    refine e_iload_n dX5_takePairs_2 rfl ?_
    refine e_aload_n dX5_takePairs_3 rfl ?_
    refine e_get (.ref (y + 1)) dX5_takePairs_4 tf_5_12 (congrArg Prod.fst (ma_s0 k2)) (congrArg va_rf (ma_r0_0 k2)) ?_
    refine e_get (.ref (y + 2)) dX5_takePairs_7 tf_5_53 (congrArg Prod.fst (ma_s1 k2)) (congrArg va_rf (ma_r1_0 k2)) ?_
    refine z_get (nd g) dX5_takePairs_10 tf_5_57 (congrArg Prod.fst (ma_s2 k2)) (Or.inl rfl) (isF_nd H3) ?_
    have y6 := isF_n H3
    refine z_icmp_ge 33 dX5_takePairs_13 rfl ⟨by omega, by omega⟩ ⟨by omega, by omega⟩ (fun c7 => ?_) (fun c7 => ?_)
    · skip
      refine e_vret dX5_takePairs_33 rfl ⟨rfl, ?_⟩
      exact kq _ FR5 (mrC_e (pfR_e (tlR_w W) (by omega)) I3)
    · skip
      refine e_aload_n dX5_takePairs_16 rfl ?_
      refine e_iload_n dX5_takePairs_17 rfl ?_
      refine e_aload_n dX5_takePairs_18 rfl ?_
      refine e_get (.ref (y + 35)) dX5_takePairs_19 tf_5_28 (congrArg Prod.fst (ma_s0 k2)) (congrArg va_rf (ma_r0_4 k2)) ?_
      refine e_iload_n dX5_takePairs_22 rfl ?_
      refine z_ild (tlR g d) dX5_takePairs_23 (ma_s35 k2) (by decide) (by omega) (by omega) (H4.2.1 d (by omega) (by omega)) ?_
      have y8 := tlR_b H4.1 d
      refine e_callV [.int _, .int _] dX5_takePairs_24 tm_5_99 rfl (Nat.le_of_ble_eq_true rfl) (congrArg Prod.fst (ma_s0 k2)) (Nat.le_of_ble_eq_true rfl) (Nat.le_refl _) (Nat.le_refl _) rfl (zp_X5_couple k2 d ⟨by omega, by omega⟩ (tlR g d) ⟨by omega, by omega⟩ I3 (by omega) (by omega) (by omega) (pfR_6 d) (fun z => pfR_fr (tlR_w W) (by omega) (by omega) z) (fun  h9 f10 p11 => ?_))
      have k12 := lk_q (frm_s f10) k2
      have H13 := isF_c f10 (fun a k q1 q2 => by omega) H3
      have H14 := bdC_c f10 (fun a k q => by omega) H4
      have FR15 := frm_t FR5 (frm_m (S' := (fun a k => a = y + 33 ∨ a = y + 34)) f10 (fun a k q => by omega))
      skip
      refine z_iinc (L' := [_, _]) dX5_takePairs_27 rfl rfl ?_
      refine e_goto 2 dX5_takePairs_30 rfl ?_
      exact ih1 _ (by omega) (d + 1) h9 rfl k12 H13 H14 FR15 (by omega) (mrC_e pfR_s p11)
  exact lp1 _ 0 h rfl hk HF HD FR0 (by omega) p6
def orC (h : mH) (y : Nat) (g r : Int → Int) : Prop := isRw g r ∧ ∀ d : Int, 0 ≤ d → d < nd g → rI h (y + 37) d = r d
theorem orC_c {S : Nat → Nat → Prop} {h h1 : mH} {y : Nat} {g r : Int → Int} (f : frm S h h1) (z : ∀ a k, a = y + 37 → ¬ S a k) (H : orC h y g r) : orC h1 y g r := ⟨H.1, fun d a b => (frm_r f (z _ _ rfl)).trans (H.2 d a b)⟩
set_option maxHeartbeats 400000 in
theorem zp_X5_takeRow {ad : mA} {dd : Nat} {h : mH} {Q : mQ} {y : Nat} {g r : Int → Int} (hk : mak h y) (HF : isF h (y + 1) g) (HO : orC h y g r)    (kq : ∀ h1, frm (fun a k => a = y + 33 ∨ a = y + 34) h h1 → (mrC h1 y g r) → Q none h1) : mCal TB0 ad (dd + 2) M_X5_takeRow [.ref y] h 0 0 Q := by
  refine ⟨Nat.le_of_ble_eq_true rfl, ?_⟩
  show mEv TB0 ad M_X5_takeRow (dd + 2) (0, 0) (mCal TB0 ad (dd + 1)) (fun v h' z => z.1 = 0 ∧ Q v h') 0 [some (.ref y), none] [] h (0, 0)
  have FR0 : frm (fun a k => a = y + 33 ∨ a = y + 34) h h := frm_0 h
  have w1 := isF_n HF
  have W := isF_w HF
  refine e_aload_n dX5_takeRow_0 rfl ?_
  refine e_get (.ref (y + 33)) dX5_takeRow_1 tf_5_21 (congrArg Prod.fst (ma_s0 hk)) (congrArg va_rf (ma_r0_2 hk)) ?_
  refine z_bipush (6) dX5_takeRow_4 rfl ?_
  refine e_callS [.ref _, .int _] dX5_takeRow_6 tm_5_74 rfl (Nat.le_of_ble_eq_true rfl) (Nat.le_refl _) (Nat.le_refl _) rfl (zp_fill (ma_s33 hk) (by decide) ⟨by omega, by omega⟩ (fun h1 f2 e3 => ?_))
  have k4 := lk_q (frm_s f2) hk
  have H5 := isF_c f2 (fun a k q1 q2 => by omega) HF
  have H6 := orC_c f2 (fun a k q => by omega) HO
  have FR7 := frm_t FR0 (frm_m (S' := (fun a k => a = y + 33 ∨ a = y + 34)) f2 (fun a k q => by omega))
  refine e_aload_n dX5_takeRow_9 rfl ?_
  refine e_get (.ref (y + 34)) dX5_takeRow_10 tf_5_25 (congrArg Prod.fst (ma_s0 k4)) (congrArg va_rf (ma_r0_3 k4)) ?_
  refine z_bipush (6) dX5_takeRow_13 rfl ?_
  refine e_callS [.ref _, .int _] dX5_takeRow_15 tm_5_74 rfl (Nat.le_of_ble_eq_true rfl) (Nat.le_refl _) (Nat.le_refl _) rfl (zp_fill (ma_s34 k4) (by decide) ⟨by omega, by omega⟩ (fun h8 f9 e10 => ?_))
  have k11 := lk_q (frm_s f9) k4
  have H12 := isF_c f9 (fun a k q1 q2 => by omega) H5
  have H13 := orC_c f9 (fun a k q => by omega) H6
  have FR14 := frm_t FR7 (frm_m (S' := (fun a k => a = y + 33 ∨ a = y + 34)) f9 (fun a k q => by omega))
  refine z_iconst (0) dX5_takeRow_18 rfl ?_
  refine e_istore_n (L' := [_, _]) dX5_takeRow_19 (Nat.le_of_ble_eq_true rfl) rfl ?_
  have lp15 : ∀ (n15 : Nat) (d : Int) (h15 : mH), (nd g - d).toNat = n15 → (mak h15 y) → (isF h15 (y + 1) g) → (orC h15 y g r) → (frm (fun a k => a = y + 33 ∨ a = y + 34) h h15) → (0 ≤ d ∧ d ≤ nd g) → (mrC h15 y g (pfR r d)) → mEv TB0 ad M_X5_takeRow (dd + 2) (0, 0) (mCal TB0 ad (dd + 1)) (fun v h' z => z.1 = 0 ∧ Q v h') 20 [some (.ref y), some (.int (zI d))] [] h15 (0, 0) := by
    intro n15
    induction n15 using Nat.strongRecOn with
    | ind n15 ih15 =>
    intro d h15 hn15 k16 H17 H18 FR19 I1 I3
    refine e_iload_n dX5_takeRow_20 rfl ?_
    refine e_aload_n dX5_takeRow_21 rfl ?_
    refine e_get (.ref (y + 1)) dX5_takeRow_22 tf_5_12 (congrArg Prod.fst (ma_s0 k16)) (congrArg va_rf (ma_r0_0 k16)) ?_
    refine e_get (.ref (y + 2)) dX5_takeRow_25 tf_5_53 (congrArg Prod.fst (ma_s1 k16)) (congrArg va_rf (ma_r1_0 k16)) ?_
    refine z_get (nd g) dX5_takeRow_28 tf_5_57 (congrArg Prod.fst (ma_s2 k16)) (Or.inl rfl) (isF_nd H17) ?_
    have y20 := isF_n H17
    refine z_icmp_ge 57 dX5_takeRow_31 rfl ⟨by omega, by omega⟩ ⟨by omega, by omega⟩ (fun c21 => ?_) (fun c21 => ?_)
    · skip
      refine e_vret dX5_takeRow_57 rfl ⟨rfl, ?_⟩
      exact kq _ FR19 (mrC_e (pfR_e HO.1 (by omega)) I3)
    · skip
      refine e_iload_n dX5_takeRow_34 rfl ?_
      refine z_bipush (6) dX5_takeRow_35 rfl ?_
      refine z_icmp_ge 57 dX5_takeRow_37 rfl ⟨by omega, by omega⟩ ⟨by omega, by omega⟩ (fun c22 => ?_) (fun c22 => ?_)
      · skip
        refine e_vret dX5_takeRow_57 rfl ⟨rfl, ?_⟩
        exact kq _ FR19 (mrC_e (pfR_e HO.1 (by omega)) I3)
      · skip
        refine e_aload_n dX5_takeRow_40 rfl ?_
        refine e_iload_n dX5_takeRow_41 rfl ?_
        refine e_aload_n dX5_takeRow_42 rfl ?_
        refine e_get (.ref (y + 37)) dX5_takeRow_43 tf_5_34 (congrArg Prod.fst (ma_s0 k16)) (congrArg va_rf (ma_r0_6 k16)) ?_
        refine e_iload_n dX5_takeRow_46 rfl ?_
        refine z_ild (r d) dX5_takeRow_47 (ma_s37 k16) (by decide) (by omega) (by omega) (H18.2 d (by omega) (by omega)) ?_
        have y23 := isRw_f H18.1 (show 0 ≤ d by omega) (by omega)
        refine e_callV [.int _, .int _] dX5_takeRow_48 tm_5_99 rfl (Nat.le_of_ble_eq_true rfl) (congrArg Prod.fst (ma_s0 k16)) (Nat.le_of_ble_eq_true rfl) (Nat.le_refl _) (Nat.le_refl _) rfl (zp_X5_couple k16 d ⟨by omega, by omega⟩ (r d) ⟨by omega, by omega⟩ I3 (by omega) (by omega) (by omega) (pfR_6 d) (fun z => pfR_fr HO.1 (by omega) (by omega) z) (fun  h24 f25 p26 => ?_))
        have k27 := lk_q (frm_s f25) k16
        have H28 := isF_c f25 (fun a k q1 q2 => by omega) H17
        have H29 := orC_c f25 (fun a k q => by omega) H18
        have FR30 := frm_t FR19 (frm_m (S' := (fun a k => a = y + 33 ∨ a = y + 34)) f25 (fun a k q => by omega))
        skip
        refine z_iinc (L' := [_, _]) dX5_takeRow_51 rfl rfl ?_
        refine e_goto 20 dX5_takeRow_54 rfl ?_
        exact ih15 _ (by omega) (d + 1) h24 rfl k27 H28 H29 FR30 (by omega) (mrC_e pfR_s p26)
  exact lp15 _ 0 h8 rfl k11 H12 H13 FR14 (by omega) (mrC_0 r (fun k a c => ((frm_r f9 (by omega))).trans (e3 k a (by omega))) (fun k a c => (rfl).trans (e10 k a (by omega))))
