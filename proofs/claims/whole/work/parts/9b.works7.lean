/-! WORKS: the class's search -/
theorem dX9_assign_0 : decode cX9_assign 0 = .ok (.iload_n 2, 1) := by decide +kernel
theorem dX9_assign_1 : decode cX9_assign 1 = .ok (.ifCond .lt 24, 3) := by decide +kernel
theorem dX9_assign_4 : decode cX9_assign 4 = .ok (.iload_n 2, 1) := by decide +kernel
theorem dX9_assign_5 : decode cX9_assign 5 = .ok (.bipush 6, 2) := by decide +kernel
theorem dX9_assign_7 : decode cX9_assign 7 = .ok (.if_icmp .gt 18, 3) := by decide +kernel
theorem dX9_assign_10 : decode cX9_assign 10 = .ok (.iload_n 3, 1) := by decide +kernel
theorem dX9_assign_11 : decode cX9_assign 11 = .ok (.aload_n 0, 1) := by decide +kernel
theorem dX9_assign_12 : decode cX9_assign 12 = .ok (.getfield 32, 3) := by decide +kernel
theorem dX9_assign_15 : decode cX9_assign 15 = .ok (.iload_n 2, 1) := by decide +kernel
theorem dX9_assign_16 : decode cX9_assign 16 = .ok (.iaload, 1) := by decide +kernel
theorem dX9_assign_17 : decode cX9_assign 17 = .ok (.iadd, 1) := by decide +kernel
theorem dX9_assign_18 : decode cX9_assign 18 = .ok (.aload_n 0, 1) := by decide +kernel
theorem dX9_assign_19 : decode cX9_assign 19 = .ok (.getfield 15, 3) := by decide +kernel
theorem dX9_assign_22 : decode cX9_assign 22 = .ok (.if_icmp .gt 4, 3) := by decide +kernel
theorem dX9_assign_25 : decode cX9_assign 25 = .ok (.return_, 1) := by decide +kernel
theorem dX9_assign_26 : decode cX9_assign 26 = .ok (.iload_n 2, 1) := by decide +kernel
theorem dX9_assign_27 : decode cX9_assign 27 = .ok (.aload_n 1, 1) := by decide +kernel
theorem dX9_assign_28 : decode cX9_assign 28 = .ok (.getfield 56, 3) := by decide +kernel
theorem dX9_assign_31 : decode cX9_assign 31 = .ok (.if_icmp .ge 9, 3) := by decide +kernel
theorem dX9_assign_34 : decode cX9_assign 34 = .ok (.iload_n 2, 1) := by decide +kernel
theorem dX9_assign_35 : decode cX9_assign 35 = .ok (.bipush 6, 2) := by decide +kernel
theorem dX9_assign_37 : decode cX9_assign 37 = .ok (.if_icmp .lt 9, 3) := by decide +kernel
theorem dX9_assign_40 : decode cX9_assign 40 = .ok (.aload_n 0, 1) := by decide +kernel
theorem dX9_assign_41 : decode cX9_assign 41 = .ok (.iload_n 3, 1) := by decide +kernel
theorem dX9_assign_42 : decode cX9_assign 42 = .ok (.invokevirtual 78, 3) := by decide +kernel
theorem dX9_assign_45 : decode cX9_assign 45 = .ok (.return_, 1) := by decide +kernel
theorem dX9_assign_46 : decode cX9_assign 46 = .ok (.iconst 0, 1) := by decide +kernel
theorem dX9_assign_47 : decode cX9_assign 47 = .ok (.istore 4, 2) := by decide +kernel
theorem dX9_assign_49 : decode cX9_assign 49 = .ok (.iload 4, 2) := by decide +kernel
theorem dX9_assign_51 : decode cX9_assign 51 = .ok (.aload_n 1, 1) := by decide +kernel
theorem dX9_assign_52 : decode cX9_assign 52 = .ok (.getfield 82, 3) := by decide +kernel
theorem dX9_assign_55 : decode cX9_assign 55 = .ok (.getfield 86, 3) := by decide +kernel
theorem dX9_assign_58 : decode cX9_assign 58 = .ok (.if_icmp .ge 103, 3) := by decide +kernel
theorem dX9_assign_61 : decode cX9_assign 61 = .ok (.iload 4, 2) := by decide +kernel
theorem dX9_assign_63 : decode cX9_assign 63 = .ok (.bipush 6, 2) := by decide +kernel
theorem dX9_assign_65 : decode cX9_assign 65 = .ok (.if_icmp .ge 96, 3) := by decide +kernel
theorem dX9_assign_68 : decode cX9_assign 68 = .ok (.aload_n 0, 1) := by decide +kernel
theorem dX9_assign_69 : decode cX9_assign 69 = .ok (.getfield 29, 3) := by decide +kernel
theorem dX9_assign_72 : decode cX9_assign 72 = .ok (.iload 4, 2) := by decide +kernel
theorem dX9_assign_74 : decode cX9_assign 74 = .ok (.iaload, 1) := by decide +kernel
theorem dX9_assign_75 : decode cX9_assign 75 = .ok (.iconst 1, 1) := by decide +kernel
theorem dX9_assign_76 : decode cX9_assign 76 = .ok (.iload_n 2, 1) := by decide +kernel
theorem dX9_assign_77 : decode cX9_assign 77 = .ok (.ishl, 1) := by decide +kernel
theorem dX9_assign_78 : decode cX9_assign 78 = .ok (.ior, 1) := by decide +kernel
theorem dX9_assign_79 : decode cX9_assign 79 = .ok (.istore 5, 2) := by decide +kernel
theorem dX9_assign_81 : decode cX9_assign 81 = .ok (.aload_n 1, 1) := by decide +kernel
theorem dX9_assign_82 : decode cX9_assign 82 = .ok (.iload 4, 2) := by decide +kernel
theorem dX9_assign_84 : decode cX9_assign 84 = .ok (.invokevirtual 91, 3) := by decide +kernel
theorem dX9_assign_87 : decode cX9_assign 87 = .ok (.iconst (-1), 1) := by decide +kernel
theorem dX9_assign_88 : decode cX9_assign 88 = .ok (.if_icmp .eq 67, 3) := by decide +kernel
theorem dX9_assign_91 : decode cX9_assign 91 = .ok (.aload_n 0, 1) := by decide +kernel
theorem dX9_assign_92 : decode cX9_assign 92 = .ok (.getfield 25, 3) := by decide +kernel
theorem dX9_assign_95 : decode cX9_assign 95 = .ok (.iload 4, 2) := by decide +kernel
theorem dX9_assign_97 : decode cX9_assign 97 = .ok (.bipush 64, 2) := by decide +kernel
theorem dX9_assign_99 : decode cX9_assign 99 = .ok (.imul, 1) := by decide +kernel
theorem dX9_assign_100 : decode cX9_assign 100 = .ok (.iload 5, 2) := by decide +kernel
theorem dX9_assign_102 : decode cX9_assign 102 = .ok (.iadd, 1) := by decide +kernel
theorem dX9_assign_103 : decode cX9_assign 103 = .ok (.baload, 1) := by decide +kernel
theorem dX9_assign_104 : decode cX9_assign 104 = .ok (.ifCond .eq 51, 3) := by decide +kernel
theorem dX9_assign_107 : decode cX9_assign 107 = .ok (.aload_n 0, 1) := by decide +kernel
theorem dX9_assign_108 : decode cX9_assign 108 = .ok (.getfield 29, 3) := by decide +kernel
theorem dX9_assign_111 : decode cX9_assign 111 = .ok (.iload 4, 2) := by decide +kernel
theorem dX9_assign_113 : decode cX9_assign 113 = .ok (.iload 5, 2) := by decide +kernel
theorem dX9_assign_115 : decode cX9_assign 115 = .ok (.iastore, 1) := by decide +kernel
theorem dX9_assign_116 : decode cX9_assign 116 = .ok (.aload_n 0, 1) := by decide +kernel
theorem dX9_assign_117 : decode cX9_assign 117 = .ok (.getfield 19, 3) := by decide +kernel
theorem dX9_assign_120 : decode cX9_assign 120 = .ok (.iload_n 2, 1) := by decide +kernel
theorem dX9_assign_121 : decode cX9_assign 121 = .ok (.iload 4, 2) := by decide +kernel
theorem dX9_assign_123 : decode cX9_assign 123 = .ok (.iastore, 1) := by decide +kernel
theorem dX9_assign_124 : decode cX9_assign 124 = .ok (.aload_n 0, 1) := by decide +kernel
theorem dX9_assign_125 : decode cX9_assign 125 = .ok (.aload_n 1, 1) := by decide +kernel
theorem dX9_assign_126 : decode cX9_assign 126 = .ok (.iload_n 2, 1) := by decide +kernel
theorem dX9_assign_127 : decode cX9_assign 127 = .ok (.iconst 1, 1) := by decide +kernel
theorem dX9_assign_128 : decode cX9_assign 128 = .ok (.iadd, 1) := by decide +kernel
theorem dX9_assign_129 : decode cX9_assign 129 = .ok (.iload_n 3, 1) := by decide +kernel
theorem dX9_assign_130 : decode cX9_assign 130 = .ok (.aload_n 1, 1) := by decide +kernel
theorem dX9_assign_131 : decode cX9_assign 131 = .ok (.getfield 75, 3) := by decide +kernel
theorem dX9_assign_134 : decode cX9_assign 134 = .ok (.iload_n 2, 1) := by decide +kernel
theorem dX9_assign_135 : decode cX9_assign 135 = .ok (.iaload, 1) := by decide +kernel
theorem dX9_assign_136 : decode cX9_assign 136 = .ok (.iadd, 1) := by decide +kernel
theorem dX9_assign_137 : decode cX9_assign 137 = .ok (.invokestatic 52, 3) := by decide +kernel
theorem dX9_assign_140 : decode cX9_assign 140 = .ok (.aload_n 0, 1) := by decide +kernel
theorem dX9_assign_141 : decode cX9_assign 141 = .ok (.getfield 29, 3) := by decide +kernel
theorem dX9_assign_144 : decode cX9_assign 144 = .ok (.iload 4, 2) := by decide +kernel
theorem dX9_assign_146 : decode cX9_assign 146 = .ok (.iload 5, 2) := by decide +kernel
theorem dX9_assign_148 : decode cX9_assign 148 = .ok (.iconst 1, 1) := by decide +kernel
theorem dX9_assign_149 : decode cX9_assign 149 = .ok (.iload_n 2, 1) := by decide +kernel
theorem dX9_assign_150 : decode cX9_assign 150 = .ok (.ishl, 1) := by decide +kernel
theorem dX9_assign_151 : decode cX9_assign 151 = .ok (.iconst (-1), 1) := by decide +kernel
theorem dX9_assign_152 : decode cX9_assign 152 = .ok (.ixor, 1) := by decide +kernel
theorem dX9_assign_153 : decode cX9_assign 153 = .ok (.iand, 1) := by decide +kernel
theorem dX9_assign_154 : decode cX9_assign 154 = .ok (.iastore, 1) := by decide +kernel
theorem dX9_assign_155 : decode cX9_assign 155 = .ok (.iinc 4 1, 3) := by decide +kernel
theorem dX9_assign_158 : decode cX9_assign 158 = .ok (.goto (-109), 3) := by decide +kernel
theorem dX9_assign_161 : decode cX9_assign 161 = .ok (.aload_n 0, 1) := by decide +kernel
theorem dX9_assign_162 : decode cX9_assign 162 = .ok (.getfield 19, 3) := by decide +kernel
theorem dX9_assign_165 : decode cX9_assign 165 = .ok (.iload_n 2, 1) := by decide +kernel
theorem dX9_assign_166 : decode cX9_assign 166 = .ok (.bipush 6, 2) := by decide +kernel
theorem dX9_assign_168 : decode cX9_assign 168 = .ok (.iastore, 1) := by decide +kernel
theorem dX9_assign_169 : decode cX9_assign 169 = .ok (.aload_n 0, 1) := by decide +kernel
theorem dX9_assign_170 : decode cX9_assign 170 = .ok (.aload_n 1, 1) := by decide +kernel
theorem dX9_assign_171 : decode cX9_assign 171 = .ok (.iload_n 2, 1) := by decide +kernel
theorem dX9_assign_172 : decode cX9_assign 172 = .ok (.iconst 1, 1) := by decide +kernel
theorem dX9_assign_173 : decode cX9_assign 173 = .ok (.iadd, 1) := by decide +kernel
theorem dX9_assign_174 : decode cX9_assign 174 = .ok (.iload_n 3, 1) := by decide +kernel
theorem dX9_assign_175 : decode cX9_assign 175 = .ok (.invokestatic 52, 3) := by decide +kernel
theorem dX9_assign_178 : decode cX9_assign 178 = .ok (.return_, 1) := by decide +kernel
theorem dX9_keepRow_0 : decode cX9_keepRow 0 = .ok (.aload_n 0, 1) := by decide +kernel
theorem dX9_keepRow_1 : decode cX9_keepRow 1 = .ok (.iload_n 1, 1) := by decide +kernel
theorem dX9_keepRow_2 : decode cX9_keepRow 2 = .ok (.putfield 15, 3) := by decide +kernel
theorem dX9_keepRow_5 : decode cX9_keepRow 5 = .ok (.aload_n 0, 1) := by decide +kernel
theorem dX9_keepRow_6 : decode cX9_keepRow 6 = .ok (.getfield 19, 3) := by decide +kernel
theorem dX9_keepRow_9 : decode cX9_keepRow 9 = .ok (.iconst 0, 1) := by decide +kernel
theorem dX9_keepRow_10 : decode cX9_keepRow 10 = .ok (.aload_n 0, 1) := by decide +kernel
theorem dX9_keepRow_11 : decode cX9_keepRow 11 = .ok (.getfield 9, 3) := by decide +kernel
theorem dX9_keepRow_14 : decode cX9_keepRow 14 = .ok (.iconst 0, 1) := by decide +kernel
theorem dX9_keepRow_15 : decode cX9_keepRow 15 = .ok (.bipush 6, 2) := by decide +kernel
theorem dX9_keepRow_17 : decode cX9_keepRow 17 = .ok (.invokestatic 95, 3) := by decide +kernel
theorem dX9_keepRow_20 : decode cX9_keepRow 20 = .ok (.return_, 1) := by decide +kernel
set_option maxRecDepth 20000 in
theorem tm_9_52 : tMet TB0 9 52 = some (1, M_X9_assign) := rfl
set_option maxRecDepth 20000 in
theorem tm_9_78 : tMet TB0 9 78 = some (0, M_X9_keepRow) := rfl
set_option maxRecDepth 20000 in
theorem tm_9_91 : tMet TB0 9 91 = some (0, M_X2_upOf) := rfl
set_option maxRecDepth 20000 in
theorem tm_9_95 : tMet TB0 9 95 = some (5, M_none) := rfl
/-- the class's rows below a prefix: who has what so far -/
def asS (h : mH) (y : Nat) (w : Int → Int) (n : Int) : Prop := (∀ d : Int, 0 ≤ d → d < 6 → (0 ≤ rI h (y + 5) d ∧ rI h (y + 5) d < 64) ∧ ∀ o, 0 ≤ o → o < 6 → (hasZ (rI h (y + 5) d) o ↔ o < n ∧ w o = d)) ∧ ∀ c : Int, 0 ≤ c → c < n → rI h (y + 2) c = w c
theorem asS_c {S : Nat → Nat → Prop} {h h1 : mH} {y : Nat} {w : Int → Int} {n : Int} (f : frm S h h1) (z : ∀ a k, a = y + 5 ∨ a = y + 2 → ¬ S a k) (H : asS h y w n) : asS h1 y w n := ⟨fun d a b => by rw [frm_r f (z _ _ (Or.inl rfl))]; exact H.1 d a b, fun c a b => (frm_r f (z _ _ (Or.inr rfl))).trans (H.2 c a b)⟩
def bsS (h : mH) (y : Nat) (g : Int → Int) (v : Int) : Prop := ((v = -1 ∧ rI h y 1 = -1) ∨ (v ≠ -1 ∧ rI h y 1 = suW g v)) ∧ (v ≠ -1 → ∀ c : Int, 0 ≤ c → c < nc g → rI h (y + 1) c = dgZ v c)
theorem bsS_c {S : Nat → Nat → Prop} {h h1 : mH} {y : Nat} {g : Int → Int} {v : Int} (f : frm S h h1) (z : ∀ a k, (a = y ∧ k = 1) ∨ a = y + 1 → ¬ S a k) (H : bsS h y g v) : bsS h1 y g v := ⟨by rw [frm_r f (z _ _ (by omega))]; exact H.1, fun n c a b => (frm_r f (z _ _ (by omega))).trans (H.2 n c a b)⟩
theorem bsS_b {h : mH} {y : Nat} {g : Int → Int} {v : Int} (w : wfC g) (H : bsS h y g v) : (-1 ≤ rI h y 1 ∧ rI h y 1 ≤ 120) ∧ ((v = -1 ∧ rI h y 1 = -1) ∨ (v ≠ -1 ∧ rI h y 1 = suW g v)) := by
  have := suW_b w v
  have q := H.1
  exact ⟨by omega, q⟩
/-- one more who works -/
theorem asS_y {h h1 : mH} {y : Nat} {w : Int → Int} {c d S : Int} (H : asS h y w c) (c0 : 0 ≤ c) (c1 : c < 6) (hd : 0 ≤ d ∧ d < 6) (eS : S = orZ (rI h (y + 5) d) (shlZ 1 c)) (t1 : rI h1 (y + 5) d = S) (t2 : ∀ e, 0 ≤ e → e < 6 → e ≠ d → rI h1 (y + 5) e = rI h (y + 5) e) (r1 : rI h1 (y + 2) c = d) (r2 : ∀ e, 0 ≤ e → e < c → rI h1 (y + 2) e = rI h (y + 2) e) : asS h1 y (setG w c d) (c + 1) := by
  refine ⟨fun e a b => ?_, fun x a b => ?_⟩
  · have q := H.1 e a b
    by_cases z : e = d
    · subst z
      rw [t1, eS]
      refine ⟨or_b q.1.2 c1, fun o u v => ?_⟩
      rw [or1_has c0 u, q.2 o u v]
      unfold setG
      by_cases y2 : o = c
      · rw [if_pos y2]; exact ⟨fun _ => ⟨by omega, rfl⟩, fun _ => Or.inr y2⟩
      · rw [if_neg y2]; exact ⟨fun z => ⟨by omega, (z.resolve_right y2).2⟩, fun z => Or.inl ⟨by omega, z.2⟩⟩
    · rw [t2 e a b z]
      refine ⟨q.1, fun o u v => ?_⟩
      rw [q.2 o u v]
      unfold setG
      by_cases y2 : o = c
      · rw [if_pos y2]; exact ⟨fun z => by omega, fun w => absurd w.2.symm z⟩
      · rw [if_neg y2]; exact ⟨fun z => ⟨by omega, z.2⟩, fun z => ⟨by omega, z.2⟩⟩
  · unfold setG
    by_cases z : x = c
    · rw [if_pos z, z]; exact r1
    · rw [if_neg z, r2 x a (by omega)]; exact H.2 x a (by omega)
theorem asS_h {h : mH} {y : Nat} {w : Int → Int} {c d : Int} (H : asS h y w c) (c0 : 0 ≤ c) (hd : 0 ≤ d ∧ d < 6) : ∀ o, 0 ≤ o → o < 6 → (hasZ (orZ (rI h (y + 5) d) (shlZ 1 c)) o ↔ (o < c ∧ w o = d) ∨ o = c) := fun o u v => by rw [or1_has c0 u, (H.1 d hd.1 hd.2).2 o u v]
/-- and he is free again -/
theorem asS_z {h h1 : mH} {y : Nat} {w : Int → Int} {c d S : Int} (H : asS h y (setG w c d) (c + 1)) (c0 : 0 ≤ c) (c1 : c < 6) (hd : 0 ≤ d ∧ d < 6) (hS : ∀ o, 0 ≤ o → o < 6 → (hasZ S o ↔ (o < c ∧ w o = d) ∨ o = c)) (hb : 0 ≤ S ∧ S < 64) (t1 : rI h1 (y + 5) d = subS S (shlZ 1 c)) (t2 : ∀ e, 0 ≤ e → e < 6 → e ≠ d → rI h1 (y + 5) e = rI h (y + 5) e) (r2 : ∀ e, 0 ≤ e → e < c → rI h1 (y + 2) e = rI h (y + 2) e) : asS h1 y w c := by
  have cb := b1_b c1
  refine ⟨fun e a b => ?_, fun x a b => ?_⟩
  · by_cases z : e = d
    · subst z
      have sb := subS_b S (shlZ 1 c)
      rw [t1]
      refine ⟨⟨sb.1, by omega⟩, fun o u v => ?_⟩
      rw [subS_h hb (show 0 ≤ shlZ 1 c ∧ shlZ 1 c < 64 from ⟨by have : 1 ≤ shlZ 1 c := cb.1; omega, cb.2⟩) u v, hS o u v, show shlZ 1 c = b1 c from rfl, has_b1 c0 u]
      constructor
      · rintro ⟨q1, q2⟩; exact q1.resolve_right q2
      · intro q; exact ⟨Or.inl q, by omega⟩
    · have q := H.1 e a b
      rw [t2 e a b z]
      refine ⟨q.1, fun o u v => ?_⟩
      rw [q.2 o u v]
      unfold setG
      by_cases y2 : o = c
      · rw [if_pos y2]; exact ⟨fun w => absurd w.2.symm z, fun w => by omega⟩
      · rw [if_neg y2]; exact ⟨fun z => ⟨by omega, z.2⟩, fun z => ⟨by omega, z.2⟩⟩
  · rw [r2 x a b, H.2 x a (by omega)]
    exact if_neg (by omega)
theorem asS_6 {h h1 : mH} {y : Nat} {w : Int → Int} {c : Int} (H : asS h y w c) (c0 : 0 ≤ c) (t : ∀ e, 0 ≤ e → e < 6 → rI h1 (y + 5) e = rI h (y + 5) e) (r1 : rI h1 (y + 2) c = 6) (r2 : ∀ e, 0 ≤ e → e < c → rI h1 (y + 2) e = rI h (y + 2) e) : asS h1 y (setG w c 6) (c + 1) := by
  refine ⟨fun e a b => ?_, fun x a b => ?_⟩
  · have q := H.1 e a b
    rw [t e a b]
    refine ⟨q.1, fun o u v => ?_⟩
    rw [q.2 o u v]
    unfold setG
    by_cases y2 : o = c
    · rw [if_pos y2]; exact ⟨fun z => by omega, fun w => by omega⟩
    · rw [if_neg y2]; exact ⟨fun z => ⟨by omega, z.2⟩, fun z => ⟨by omega, z.2⟩⟩
  · unfold setG
    by_cases z : x = c
    · rw [if_pos z, z]; exact r1
    · rw [if_neg z, r2 x a (by omega)]; exact H.2 x a (by omega)
theorem asS_q {h : mH} {y : Nat} {w : Int → Int} {c : Int} (H : asS h y (setG w c 6) (c + 1)) (c0 : 0 ≤ c) : asS h y w c := by
  refine ⟨fun e a b => ?_, fun x a b => ?_⟩
  · have q := H.1 e a b
    refine ⟨q.1, fun o u v => ?_⟩
    rw [q.2 o u v]
    unfold setG
    by_cases y2 : o = c
    · rw [if_pos y2]; exact ⟨fun z => by omega, fun w => by omega⟩
    · rw [if_neg y2]; exact ⟨fun z => ⟨by omega, z.2⟩, fun z => ⟨by omega, z.2⟩⟩
  · rw [H.2 x a (by omega)]
    exact if_neg (by omega)
/-- all that a call of assign is told -/
def asP (g w : Int → Int) (c s v : Int) : Prop := (∀ x, 0 ≤ x → x < c → okD g w x) ∧ s = suV g w c ∧ fmax (vaW g) (suW g) (cdZ w c) v
def asE (h : mH) (y : Nat) (g : Int → Int) (N : Int) : Prop := ∃ v, fmax (vaW g) (suW g) N v ∧ bsS h y g v
theorem asP_b {g w : Int → Int} {c s v : Int} (wc : wfC g) (c0 : 0 ≤ c) (c1 : c ≤ nc g) (H : asP g w c s v) : 0 ≤ s ∧ s ≤ 120 := by
  have := suV_b (w := w) wc c0 c1
  have q := H.2.1
  have := wc.1
  omega
theorem asP_prune {h : mH} {y : Nat} {g w : Int → Int} {c s v : Int} (wf : wfF g) (c0 : 0 ≤ c) (c1 : c ≤ nc g) (H : asP g w c s v) (U : abU h y g) (B : bsS h y g v) (q : s + rI h (y + 6) c ≤ rI h y 1) : asE h y g (cdZ w c + scZ c) := by
  have hn := wf.1.1
  have wn := wf.2.2.1
  have sb := asP_b wf.2.2 c0 c1 H
  have ub := abU_b U c0 (show c ≤ 6 by omega)
  have s6 := sc_b c0 (show c ≤ 6 by omega)
  have vn : v ≠ -1 := fun e => by rcases B.1 with z | z <;> omega
  have bv : rI h y 1 = suW g v := by rcases B.1 with z | z; exact absurd z.1 vn; exact z.2
  refine ⟨v, fmax_dom H.2.2 (by omega) vn (fun k a b p => ?_), B⟩
  have := as_ub wf.2.2 hn.2 wn.2 U c0 c1 (okD_bs hn.2 H.1) a b p
  have e := H.2.1
  omega
theorem asP_leaf {h h1 : mH} {y : Nat} {g w : Int → Int} {c s v : Int} (wf : wfF g) (c0 : 0 ≤ c) (e : c = nc g) (H : asP g w c s v) (U : abU h y g) (B : bsS h y g v) (A : asS h y w c) (q : rI h y 1 < s + rI h (y + 6) c) (b1 : rI h1 y 1 = s) (b2 : ∀ x, 0 ≤ x → x < 6 → rI h1 (y + 1) x = rI h (y + 2) x) : asE h1 y g (cdZ w c + scZ c) := by
  have hn := wf.1.1
  have wn := wf.2.2.1
  subst e
  have s6 := sc_b wn.1 wn.2
  have u0 : rI h (y + 6) (nc g) = 0 := by
    have z : ∀ x : Nat, nc g + x ≤ 6 → rI h (y + 6) (nc g) = rI h (y + 6) (nc g + x) := by
      intro x
      induction x with
      | zero => intro _; rw [show nc g + ((0 : Nat) : Int) = nc g by omega]
      | succ x ih =>
        intro hx
        rw [ih (by omega)]
        have st : stpA g (fun x => rI h (y + 6) x) (nc g + x) := U.2.1 (nc g + x) (by omega) (by omega) (by omega)
        rcases st with t | t
        · omega
        · rw [show nc g + ((x + 1 : Nat) : Int) = nc g + x + 1 by omega]; exact t.1
    rw [z (6 - nc g).toNat (by omega), show nc g + ((6 - nc g).toNat : Int) = 6 by omega]
    exact U.1
  obtain ⟨l1, l2⟩ := va_leaf wn.1 wn.2 (okD_bs hn.2 H.1) H.1
  have cb := cd_b (w := w) wn.1 wn.2 (okD_bs hn.2 H.1)
  have hs := H.2.1
  have f1 : fmax (vaW g) (suW g) (cdZ w (nc g) + 1) (cdZ w (nc g)) := fmax_new H.2.2 cb.1 l1 (by rw [l2]; rcases B.1 with z | z; exact Or.inl z.1; exact Or.inr (by omega))
  refine ⟨cdZ w (nc g), fmax_skip f1 (by omega) (fun k a b p => by
    have := cd_one wn.1 wn.2 (show cdZ w (nc g) ≤ k by omega) b p.1
    omega), Or.inr ⟨by omega, by rw [l2, b1]; exact hs⟩, fun _ x a b => ?_⟩
  rw [b2 x a (by omega), A.2 x a b, dg_in wn.1 wn.2 (okD_bs hn.2 H.1) (by omega) (by omega) a b]
theorem asP_in {g w : Int → Int} {c s v d N : Int} (c0 : 0 ≤ c) (H : asP g w c s v) {u : Int} (f : fmax (vaW g) (suW g) N u) (e : N = cdZ w c + d * scZ (c + 1)) (ok : okD g (setG w c d) c) (s' : Int) (es : s' = s + if d < 6 then pr g c else 0) : asP g (setG w c d) (c + 1) s' u := by
  refine ⟨fun x a b => ?_, ?_, by rw [cd_set c0, ← e]; exact f⟩
  · by_cases q : x = c
    · rw [q]; exact ok
    · exact okD_e a (fun o u z => (if_neg (by omega)).symm) (H.1 x a (by omega))
  · rw [suV_s c0, suV_e (w := setG w c d) (w' := w) (fun x a e => if_neg (by omega)), es, H.2.1, show setG w c d c = d from if_pos rfl]
theorem asP_sk {g w : Int → Int} {c s v d u N N' : Int} (hn : nd g ≤ 6) (h6 : nc g ≤ 6) (c0 : 0 ≤ c) (c1 : c < nc g) (hd : 0 ≤ d ∧ d ≤ 6) (H : asP g w c s v) (f : fmax (vaW g) (suW g) N u) (e : N = cdZ w c + d * scZ (c + 1)) (e' : N' = N + scZ (c + 1)) (no : ¬ okD g (setG w c d) c) : fmax (vaW g) (suW g) N' u := by
  have sb := sc_b (n := c + 1) (by omega) (by omega)
  subst e'
  refine fmax_skip f (by omega) (fun k a b p => no ?_)
  have ec := cd_set (w := w) (n := c) (d := d) c0
  exact va_pre (g := g) (w := setG w c d) (n := c + 1) (by omega) (by omega) h6 (fun x u v => by
    unfold setG
    by_cases q : x = c
    · rw [if_pos q]; exact hd
    · rw [if_neg q]; exact okD_b hn (H.1 x u (by omega))) (by omega) (by omega) p c0 (by omega)
theorem no_hi {g w : Int → Int} {c d : Int} (h : nd g ≤ d) (h6 : d < 6) : ¬ okD g (setG w c d) c := by
  have e : setG w c d c = d := if_pos rfl
  unfold okD
  rw [e]
  rintro (q | ⟨q1, _⟩) <;> omega
/-- those who aren't there -/
theorem asP_hi {g w : Int → Int} {c s v : Int} (hn : 0 ≤ nd g ∧ nd g ≤ 6) (h6 : nc g ≤ 6) (c0 : 0 ≤ c) (c1 : c < nc g) (H : asP g w c s v) {u : Int} : ∀ (m : Nat) (d : Int), 6 - d = m → nd g ≤ d → fmax (vaW g) (suW g) (cdZ w c + d * scZ (c + 1)) u → fmax (vaW g) (suW g) (cdZ w c + 6 * scZ (c + 1)) u := by
  intro m
  induction m with
  | zero => intro d e _ f; rw [show (6 : Int) = d by omega]; exact f
  | succ m ih =>
    intro d e hd f
    refine ih (d + 1) (by omega) (by omega) ?_
    exact asP_sk hn.2 h6 c0 c1 ⟨by omega, by omega⟩ H f rfl (by rw [Int.add_mul, Int.one_mul]; omega) (no_hi hd (by omega))
set_option maxHeartbeats 400000 in
theorem zp_X9_keepRow {ad : mA} {dd : Nat} {h : mH} {Q : mQ} {y : Nat}  (hk : wkk h y)  (s : Int) (s_r : -2147483648 ≤ s ∧ s < 2147483648)  (kq : ∀ h1, frm (fun a k => (a = y ∧ k = 1) ∨ a = y + 1) h h1 → (rI h1 y 1 = s) → (∀ x : Int, 0 ≤ x → x < 6 → rI h1 (y + 1) x = rI h (y + 2) x) → Q none h1) : mCal TB0 ad (dd + 1) M_X9_keepRow [.ref y, .int (zI s)] h 0 0 Q := by
  refine ⟨Nat.le_of_ble_eq_true rfl, ?_⟩
  show mEv TB0 ad M_X9_keepRow (dd + 1) (0, 0) (mCal TB0 ad (dd + 0)) (fun v h' z => z.1 = 0 ∧ Q v h') 0 [some (.ref y), some (.int (zI s))] [] h (0, 0)
  have FR0 : frm (fun a k => (a = y ∧ k = 1) ∨ a = y + 1) h h := frm_0 h
  refine e_aload_n dX9_keepRow_0 rfl ?_
  refine e_iload_n dX9_keepRow_1 rfl ?_
  refine z_put dX9_keepRow_2 tf_9_15 (congrArg Prod.fst (wk_s0 hk)) rfl (Or.inl rfl) (fun h1 e2 => ?_)
  have f3 := frm_1 e2
  have k4 := lk_q (frm_s f3) hk
  have FR5 := frm_t FR0 (frm_m (S' := (fun a k => (a = y ∧ k = 1) ∨ a = y + 1)) f3 (fun a k q => by omega))
  refine e_aload_n dX9_keepRow_5 rfl ?_
  refine e_get (.ref (y + 2)) dX9_keepRow_6 tf_9_19 (congrArg Prod.fst (wk_s0 k4)) (congrArg va_rf (wk_r0_2 k4)) ?_
  refine z_iconst (0) dX9_keepRow_9 rfl ?_
  refine e_aload_n dX9_keepRow_10 rfl ?_
  refine e_get (.ref (y + 1)) dX9_keepRow_11 tf_9_9 (congrArg Prod.fst (wk_s0 k4)) (congrArg va_rf (wk_r0_0 k4)) ?_
  refine z_iconst (0) dX9_keepRow_14 rfl ?_
  refine z_bipush (6) dX9_keepRow_15 rfl ?_
  refine z_cpy dX9_keepRow_17 tm_9_95 (Nat.le_of_ble_eq_true rfl) (wk_s1 k4) (wk_s2 k4) (by decide) (by decide) (by omega) (by omega) (by omega) (by omega) (by omega) (fun h6 f7 e8 => ?_)
  have k9 := lk_q (frm_s f7) k4
  have FR10 := frm_t FR5 (frm_m (S' := (fun a k => (a = y ∧ k = 1) ∨ a = y + 1)) f7 (fun a k q => by omega))
  refine e_vret dX9_keepRow_20 rfl ⟨rfl, ?_⟩
  have B2 : ∀ x : Int, 0 ≤ x → x < 6 → rI h6 (y + 1) x = rI h (y + 2) x := fun x a b => ((cpy6 e8 a b)).trans ((frm_r f3 (by omega)))
  exact kq _ FR10 (show rI h6 y 1 = s from ((frm_r f7 (by omega)).trans (rI_eq e2 ⟨by omega, by omega⟩))) B2
set_option maxHeartbeats 4000000 in
theorem zp_X9_assign_6 {ad : mA} {dd : Nat} {h : mH} {Q : mQ} {y f : Nat} {g w : Int → Int} {v : Int} (hk : wkk h y) (hk1 : fgk h f) (HF : isF h f g) (HT : mgT h y g) (HU : abU h y g) (HA : asS h y w 6) (HV : bsS h y g v)  (s : Int) (s_r : -2147483648 ≤ s ∧ s < 2147483648) (pn : (6 : Int) ≤ nc g) (pa : asP g w 6 s v) (pf : y + 7 ≤ f ∨ f + 16 ≤ y) (kq : ∀ h1, frm (fun a k => (a = y ∧ k = 1) ∨ a = y + 1 ∨ a = y + 2 ∨ a = y + 5) h h1 → (asE h1 y g (cdZ w 6 + scZ 6)) → (asS h1 y w 6) → Q none h1) : mCal TB0 ad (dd + 3) M_X9_assign [.ref y, .ref f, .int (zI 6), .int (zI s)] h 0 0 Q := by
  refine ⟨Nat.le_of_ble_eq_true rfl, ?_⟩
  show mEv TB0 ad M_X9_assign (dd + 3) (0, 0) (mCal TB0 ad (dd + 2)) (fun v h' z => z.1 = 0 ∧ Q v h') 0 [some (.ref y), some (.ref f), some (.int (zI 6)), some (.int (zI s)), none, none] [] h (0, 0)
  have FR0 : frm (fun a k => (a = y ∧ k = 1) ∨ a = y + 1 ∨ a = y + 2 ∨ a = y + 5) h h := frm_0 h
  have w1 := isF_n HF
  have w2 := isF_nd HF
  have w3 := isF_nu HF
  have w4 := isF_nc HF
  have W := isF_w HF
  have wf := isF_w HF
  have sb := asP_b W.2.2 (by omega) pn pa
  have ub := abU_b HU (c := 6) (by omega) (by omega)
  have bb := bsS_b W.2.2 HV
  refine e_iload_n dX9_assign_0 rfl ?_
  refine z_if_lt 25 dX9_assign_1 rfl ⟨by omega, by omega⟩ (fun c1 => ?_) (fun c1 => ?_)
  · exfalso; omega
  · skip
    refine e_iload_n dX9_assign_4 rfl ?_
    refine z_bipush (6) dX9_assign_5 rfl ?_
    refine z_icmp_gt 25 dX9_assign_7 rfl ⟨by omega, by omega⟩ ⟨by omega, by omega⟩ (fun c2 => ?_) (fun c2 => ?_)
    · exfalso; omega
    · skip
      refine e_iload_n dX9_assign_10 rfl ?_
      refine e_aload_n dX9_assign_11 rfl ?_
      refine e_get (.ref (y + 6)) dX9_assign_12 tf_9_32 (congrArg Prod.fst (wk_s0 hk)) (congrArg va_rf (wk_r0_6 hk)) ?_
      refine e_iload_n dX9_assign_15 rfl ?_
      refine z_ild (rI h (y + 6) 6) dX9_assign_16 (wk_s6 hk) (by decide) (by omega) (by omega) rfl ?_
      refine z_iadd dX9_assign_17 ?_
      refine e_aload_n dX9_assign_18 rfl ?_
      refine z_get (rI h y 1) dX9_assign_19 tf_9_15 (congrArg Prod.fst (wk_s0 hk)) (Or.inl rfl) rfl ?_
      refine z_icmp_gt 26 dX9_assign_22 rfl ⟨by omega, by omega⟩ ⟨by omega, by omega⟩ (fun c3 => ?_) (fun c3 => ?_)
      · skip
        refine e_iload_n dX9_assign_26 rfl ?_
        refine e_aload_n dX9_assign_27 rfl ?_
        refine z_get (nc g) dX9_assign_28 tf_9_56 (congrArg Prod.fst (fg_s0 hk1)) (Or.inl rfl) (isF_nc HF) ?_
        have y4 := isF_n HF
        refine z_icmp_ge 40 dX9_assign_31 rfl ⟨by omega, by omega⟩ ⟨by omega, by omega⟩ (fun c5 => ?_) (fun c5 => ?_)
        · skip
          skip
          refine e_aload_n dX9_assign_40 rfl ?_
          refine e_iload_n dX9_assign_41 rfl ?_
          refine e_callV [.int _] dX9_assign_42 tm_9_78 rfl (Nat.le_of_ble_eq_true rfl) (congrArg Prod.fst (wk_s0 hk)) (Nat.le_of_ble_eq_true rfl) (Nat.le_refl _) (Nat.le_refl _) rfl (zp_X9_keepRow hk s ⟨by omega, by omega⟩ (fun  h6 f7 p8 p9 => ?_))
          have k10 := lk_q (frm_s f7) hk
          have k11 := lk_q (frm_s f7) hk1
          have H12 := isF_c f7 (fun a k q1 q2 => by omega) HF
          have H13 := mgT_c f7 (fun a k q => by omega) HT
          have H14 := abU_c f7 (fun a k q => by omega) HU
          have H15 := asS_c f7 (fun a k q => by omega) HA
          have FR16 := frm_t FR0 (frm_m (S' := (fun a k => (a = y ∧ k = 1) ∨ a = y + 1 ∨ a = y + 2 ∨ a = y + 5)) f7 (fun a k q => by omega))
          skip
          refine e_vret dX9_assign_45 rfl ⟨rfl, ?_⟩
          exact kq _ FR16 (asP_leaf wf (by omega) (by omega) pa HU HV HA (by omega) p8 p9) H15
        · exfalso; omega
      · skip
        skip
        refine e_vret dX9_assign_25 rfl ⟨rfl, ?_⟩
        exact kq _ FR0 (asP_prune wf (by omega) pn pa HU HV (by omega)) HA
set_option maxHeartbeats 4000000 in
theorem zp_X9_assign_5 {ad : mA} {dd : Nat} {h : mH} {Q : mQ} {y f : Nat} {g w : Int → Int} {v : Int} (hk : wkk h y) (hk1 : fgk h f) (HF : isF h f g) (HT : mgT h y g) (HU : abU h y g) (HA : asS h y w 5) (HV : bsS h y g v)  (s : Int) (s_r : -2147483648 ≤ s ∧ s < 2147483648) (pn : (5 : Int) ≤ nc g) (pa : asP g w 5 s v) (pf : y + 7 ≤ f ∨ f + 16 ≤ y) (kq : ∀ h1, frm (fun a k => (a = y ∧ k = 1) ∨ a = y + 1 ∨ a = y + 2 ∨ a = y + 5) h h1 → (asE h1 y g (cdZ w 5 + scZ 5)) → (asS h1 y w 5) → Q none h1) : mCal TB0 ad (dd + 4) M_X9_assign [.ref y, .ref f, .int (zI 5), .int (zI s)] h 0 0 Q := by
  refine ⟨Nat.le_of_ble_eq_true rfl, ?_⟩
  show mEv TB0 ad M_X9_assign (dd + 4) (0, 0) (mCal TB0 ad (dd + 3)) (fun v h' z => z.1 = 0 ∧ Q v h') 0 [some (.ref y), some (.ref f), some (.int (zI 5)), some (.int (zI s)), none, none] [] h (0, 0)
  have FR0 : frm (fun a k => (a = y ∧ k = 1) ∨ a = y + 1 ∨ a = y + 2 ∨ a = y + 5) h h := frm_0 h
  have w1 := isF_n HF
  have w2 := isF_nd HF
  have w3 := isF_nu HF
  have w4 := isF_nc HF
  have W := isF_w HF
  have wf := isF_w HF
  have sb := asP_b W.2.2 (by omega) pn pa
  have ub := abU_b HU (c := 5) (by omega) (by omega)
  have bb := bsS_b W.2.2 HV
  refine e_iload_n dX9_assign_0 rfl ?_
  refine z_if_lt 25 dX9_assign_1 rfl ⟨by omega, by omega⟩ (fun c1 => ?_) (fun c1 => ?_)
  · exfalso; omega
  · skip
    refine e_iload_n dX9_assign_4 rfl ?_
    refine z_bipush (6) dX9_assign_5 rfl ?_
    refine z_icmp_gt 25 dX9_assign_7 rfl ⟨by omega, by omega⟩ ⟨by omega, by omega⟩ (fun c2 => ?_) (fun c2 => ?_)
    · exfalso; omega
    · skip
      refine e_iload_n dX9_assign_10 rfl ?_
      refine e_aload_n dX9_assign_11 rfl ?_
      refine e_get (.ref (y + 6)) dX9_assign_12 tf_9_32 (congrArg Prod.fst (wk_s0 hk)) (congrArg va_rf (wk_r0_6 hk)) ?_
      refine e_iload_n dX9_assign_15 rfl ?_
      refine z_ild (rI h (y + 6) 5) dX9_assign_16 (wk_s6 hk) (by decide) (by omega) (by omega) rfl ?_
      refine z_iadd dX9_assign_17 ?_
      refine e_aload_n dX9_assign_18 rfl ?_
      refine z_get (rI h y 1) dX9_assign_19 tf_9_15 (congrArg Prod.fst (wk_s0 hk)) (Or.inl rfl) rfl ?_
      refine z_icmp_gt 26 dX9_assign_22 rfl ⟨by omega, by omega⟩ ⟨by omega, by omega⟩ (fun c3 => ?_) (fun c3 => ?_)
      · skip
        refine e_iload_n dX9_assign_26 rfl ?_
        refine e_aload_n dX9_assign_27 rfl ?_
        refine z_get (nc g) dX9_assign_28 tf_9_56 (congrArg Prod.fst (fg_s0 hk1)) (Or.inl rfl) (isF_nc HF) ?_
        have y4 := isF_n HF
        refine z_icmp_ge 40 dX9_assign_31 rfl ⟨by omega, by omega⟩ ⟨by omega, by omega⟩ (fun c5 => ?_) (fun c5 => ?_)
        · skip
          skip
          refine e_aload_n dX9_assign_40 rfl ?_
          refine e_iload_n dX9_assign_41 rfl ?_
          refine e_callV [.int _] dX9_assign_42 tm_9_78 rfl (Nat.le_of_ble_eq_true rfl) (congrArg Prod.fst (wk_s0 hk)) (Nat.le_of_ble_eq_true rfl) (Nat.le_refl _) (Nat.le_refl _) rfl (zp_X9_keepRow hk s ⟨by omega, by omega⟩ (fun  h6 f7 p8 p9 => ?_))
          have k10 := lk_q (frm_s f7) hk
          have k11 := lk_q (frm_s f7) hk1
          have H12 := isF_c f7 (fun a k q1 q2 => by omega) HF
          have H13 := mgT_c f7 (fun a k q => by omega) HT
          have H14 := abU_c f7 (fun a k q => by omega) HU
          have H15 := asS_c f7 (fun a k q => by omega) HA
          have FR16 := frm_t FR0 (frm_m (S' := (fun a k => (a = y ∧ k = 1) ∨ a = y + 1 ∨ a = y + 2 ∨ a = y + 5)) f7 (fun a k q => by omega))
          skip
          refine e_vret dX9_assign_45 rfl ⟨rfl, ?_⟩
          exact kq _ FR16 (asP_leaf wf (by omega) (by omega) pa HU HV HA (by omega) p8 p9) H15
        · skip
          skip
          refine e_iload_n dX9_assign_34 rfl ?_
          refine z_bipush (6) dX9_assign_35 rfl ?_
          refine z_icmp_lt 46 dX9_assign_37 rfl ⟨by omega, by omega⟩ ⟨by omega, by omega⟩ (fun c17 => ?_) (fun c17 => ?_)
          · skip
            refine z_iconst (0) dX9_assign_46 rfl ?_
            refine e_istore (L' := [_, _, _, _, _, _]) dX9_assign_47 (Nat.le_of_ble_eq_true rfl) rfl ?_
            have lp18 : ∀ (n18 : Nat) (d u : Int) (h18 : mH), (nd g - d).toNat = n18 → (wkk h18 y) → (fgk h18 f) → (isF h18 f g) → (mgT h18 y g) → (abU h18 y g) → (asS h18 y w 5) → (frm (fun a k => (a = y ∧ k = 1) ∨ a = y + 1 ∨ a = y + 2 ∨ a = y + 5) h h18) → (0 ≤ d ∧ d ≤ nd g) → (fmax (vaW g) (suW g) (cdZ w 5 + d * scZ (5 + 1)) u) → (bsS h18 y g u) → mEv TB0 ad M_X9_assign (dd + 4) (0, 0) (mCal TB0 ad (dd + 3)) (fun v h' z => z.1 = 0 ∧ Q v h') 49 [some (.ref y), some (.ref f), some (.int (zI 5)), some (.int (zI s)), some (.int (zI d)), none] [] h18 (0, 0) := by
              intro n18
              induction n18 using Nat.strongRecOn with
              | ind n18 ih18 =>
              intro d u h18 hn18 k19 k20 H21 H22 H23 H24 FR25 I1 IF IB
              refine e_iload dX9_assign_49 rfl ?_
              have ib := bsS_b W.2.2 IB
              refine e_aload_n dX9_assign_51 rfl ?_
              refine e_get (.ref (f + 1)) dX9_assign_52 tf_9_82 (congrArg Prod.fst (fg_s0 k20)) (congrArg va_rf (fg_r0_0 k20)) ?_
              refine z_get (nd g) dX9_assign_55 tf_9_86 (congrArg Prod.fst (fg_s1 k20)) (Or.inl rfl) (isF_nd H21) ?_
              have y26 := isF_n H21
              refine z_icmp_ge 161 dX9_assign_58 rfl ⟨by omega, by omega⟩ ⟨by omega, by omega⟩ (fun c27 => ?_) (fun c27 => ?_)
              · skip
                have I6 := asP_hi (c := 5) (by omega) (by omega) (by omega) (by omega) pa (6 - d).toNat d (by omega) (by omega) IF
                refine e_aload_n dX9_assign_161 rfl ?_
                refine e_get (.ref (y + 2)) dX9_assign_162 tf_9_19 (congrArg Prod.fst (wk_s0 k19)) (congrArg va_rf (wk_r0_2 k19)) ?_
                refine e_iload_n dX9_assign_165 rfl ?_
                refine z_bipush (6) dX9_assign_166 rfl ?_
                refine z_ist dX9_assign_168 (wk_s2 k19) (by decide) (by omega) (by omega) (fun h28 e29 => ?_)
                have f30 := frm_1 e29
                have k31 := lk_q (frm_s f30) k19
                have k32 := lk_q (frm_s f30) k20
                have H33 := isF_c f30 (fun a k q1 q2 => by omega) H21
                have H34 := mgT_c f30 (fun a k q => by omega) H22
                have H35 := abU_c f30 (fun a k q => by omega) H23
                have H36 := bsS_c f30 (fun a k q => by omega) IB
                have FR37 := frm_t FR25 (frm_m (S' := (fun a k => (a = y ∧ k = 1) ∨ a = y + 1 ∨ a = y + 2 ∨ a = y + 5)) f30 (fun a k q => by omega))
                have A38 : asS h28 y (setG w 5 6) (5 + 1) := asS_6 H24 (by omega) (fun e a b => (frm_r f30 (by omega))) (by exact (rI_eq e29 ⟨by omega, by omega⟩)) (fun e a b => (frm_r f30 (by omega)))
                have pin := asP_in (c := 5) (d := 6) (by omega) pa I6 rfl (Or.inl (if_pos rfl)) s (by rw [if_neg (by omega)]; omega)
                refine e_aload_n dX9_assign_169 rfl ?_
                refine e_aload_n dX9_assign_170 rfl ?_
                refine e_iload_n dX9_assign_171 rfl ?_
                refine z_iconst (1) dX9_assign_172 rfl ?_
                refine z_iadd dX9_assign_173 ?_
                refine e_iload_n dX9_assign_174 rfl ?_
                refine e_callS [.ref _, .ref _, .int _, .int _] dX9_assign_175 tm_9_52 rfl (Nat.le_of_ble_eq_true rfl) (Nat.le_refl _) (Nat.le_refl _) rfl (zp_X9_assign_6 k31 k32 H33 H34 H35 A38 H36 s ⟨by omega, by omega⟩ (by omega) pin (by omega) (fun  h39 f40 p41 p42 => ?_))
                have k43 := lk_q (frm_s f40) k31
                have k44 := lk_q (frm_s f40) k32
                have H45 := isF_c f40 (fun a k q1 q2 => by omega) H33
                have H46 := mgT_c f40 (fun a k q => by omega) H34
                have H47 := abU_c f40 (fun a k q => by omega) H35
                have FR48 := frm_t FR37 (frm_m (S' := (fun a k => (a = y ∧ k = 1) ∨ a = y + 1 ∨ a = y + 2 ∨ a = y + 5)) f40 (fun a k q => by omega))
                skip
                refine e_vret dX9_assign_178 rfl ⟨rfl, ?_⟩
                have ZZ : cdZ (setG w 5 6) (5 + 1) + scZ (5 + 1) = cdZ w 5 + scZ 5 := by rw [cd_set (by omega), (sc_s (n := 5) (by omega) (by omega)).1]; omega
                exact kq _ FR48 (by rw [← ZZ]; exact p41) (asS_q p42 (by omega))
              · skip
                refine e_iload dX9_assign_61 rfl ?_
                refine z_bipush (6) dX9_assign_63 rfl ?_
                refine z_icmp_ge 161 dX9_assign_65 rfl ⟨by omega, by omega⟩ ⟨by omega, by omega⟩ (fun c49 => ?_) (fun c49 => ?_)
                · skip
                  have I6 := asP_hi (c := 5) (by omega) (by omega) (by omega) (by omega) pa (6 - d).toNat d (by omega) (by omega) IF
                  refine e_aload_n dX9_assign_161 rfl ?_
                  refine e_get (.ref (y + 2)) dX9_assign_162 tf_9_19 (congrArg Prod.fst (wk_s0 k19)) (congrArg va_rf (wk_r0_2 k19)) ?_
                  refine e_iload_n dX9_assign_165 rfl ?_
                  refine z_bipush (6) dX9_assign_166 rfl ?_
                  refine z_ist dX9_assign_168 (wk_s2 k19) (by decide) (by omega) (by omega) (fun h50 e51 => ?_)
                  have f52 := frm_1 e51
                  have k53 := lk_q (frm_s f52) k19
                  have k54 := lk_q (frm_s f52) k20
                  have H55 := isF_c f52 (fun a k q1 q2 => by omega) H21
                  have H56 := mgT_c f52 (fun a k q => by omega) H22
                  have H57 := abU_c f52 (fun a k q => by omega) H23
                  have H58 := bsS_c f52 (fun a k q => by omega) IB
                  have FR59 := frm_t FR25 (frm_m (S' := (fun a k => (a = y ∧ k = 1) ∨ a = y + 1 ∨ a = y + 2 ∨ a = y + 5)) f52 (fun a k q => by omega))
                  have A60 : asS h50 y (setG w 5 6) (5 + 1) := asS_6 H24 (by omega) (fun e a b => (frm_r f52 (by omega))) (by exact (rI_eq e51 ⟨by omega, by omega⟩)) (fun e a b => (frm_r f52 (by omega)))
                  have pin := asP_in (c := 5) (d := 6) (by omega) pa I6 rfl (Or.inl (if_pos rfl)) s (by rw [if_neg (by omega)]; omega)
                  refine e_aload_n dX9_assign_169 rfl ?_
                  refine e_aload_n dX9_assign_170 rfl ?_
                  refine e_iload_n dX9_assign_171 rfl ?_
                  refine z_iconst (1) dX9_assign_172 rfl ?_
                  refine z_iadd dX9_assign_173 ?_
                  refine e_iload_n dX9_assign_174 rfl ?_
                  refine e_callS [.ref _, .ref _, .int _, .int _] dX9_assign_175 tm_9_52 rfl (Nat.le_of_ble_eq_true rfl) (Nat.le_refl _) (Nat.le_refl _) rfl (zp_X9_assign_6 k53 k54 H55 H56 H57 A60 H58 s ⟨by omega, by omega⟩ (by omega) pin (by omega) (fun  h61 f62 p63 p64 => ?_))
                  have k65 := lk_q (frm_s f62) k53
                  have k66 := lk_q (frm_s f62) k54
                  have H67 := isF_c f62 (fun a k q1 q2 => by omega) H55
                  have H68 := mgT_c f62 (fun a k q => by omega) H56
                  have H69 := abU_c f62 (fun a k q => by omega) H57
                  have FR70 := frm_t FR59 (frm_m (S' := (fun a k => (a = y ∧ k = 1) ∨ a = y + 1 ∨ a = y + 2 ∨ a = y + 5)) f62 (fun a k q => by omega))
                  skip
                  refine e_vret dX9_assign_178 rfl ⟨rfl, ?_⟩
                  have ZZ : cdZ (setG w 5 6) (5 + 1) + scZ (5 + 1) = cdZ w 5 + scZ 5 := by rw [cd_set (by omega), (sc_s (n := 5) (by omega) (by omega)).1]; omega
                  exact kq _ FR70 (by rw [← ZZ]; exact p63) (asS_q p64 (by omega))
                · skip
                  refine e_aload_n dX9_assign_68 rfl ?_
                  refine e_get (.ref (y + 5)) dX9_assign_69 tf_9_29 (congrArg Prod.fst (wk_s0 k19)) (congrArg va_rf (wk_r0_5 k19)) ?_
                  refine e_iload dX9_assign_72 rfl ?_
                  refine z_ild (rI h18 (y + 5) d) dX9_assign_74 (wk_s5 k19) (by decide) (by omega) (by omega) rfl ?_
                  have y71 := ((H24).1 d (by omega) (by omega)).1
                  refine z_iconst (1) dX9_assign_75 rfl ?_
                  refine e_iload_n dX9_assign_76 rfl ?_
                  refine z_ishl dX9_assign_77 (by omega) (by omega) (by omega) (by omega) ?_
                  have y72 := shlZ_b 1 5
                  refine z_ior dX9_assign_78 (by omega) (by omega) (by omega) (by omega) ?_
                  have y73 := orZ_b (rI h18 (y + 5) d) (shlZ 1 5)
                  refine e_istore (L' := [_, _, _, _, _, _]) dX9_assign_79 (Nat.le_of_ble_eq_true rfl) rfl ?_
                  have hS := asS_h H24 (c := 5) (d := d) (by omega) (by omega)
                  have ob := or_b (k := 5) ((H24).1 d (by omega) (by omega)).1.2 (by omega)
                  have ob : 0 ≤ (orZ (rI h18 (y + 5) d) (shlZ 1 5)) ∧ (orZ (rI h18 (y + 5) d) (shlZ 1 5)) < 64 := ob
                  refine e_aload_n dX9_assign_81 rfl ?_
                  refine e_iload dX9_assign_82 rfl ?_
                  refine e_callV [.int _] dX9_assign_84 tm_9_91 rfl (Nat.le_of_ble_eq_true rfl) (congrArg Prod.fst (fg_s0 k20)) (Nat.le_of_ble_eq_true rfl) (Nat.le_refl _) (Nat.le_refl _) rfl (zp_X2_upOf k20 H21 d ⟨by omega, by omega⟩ ?_)
                  have y74 := upv_s (isF_w H21) d
                  refine z_iconst (-1) dX9_assign_87 rfl ?_
                  refine z_icmp_eq 155 dX9_assign_88 rfl ⟨by omega, by omega⟩ ⟨by omega, by omega⟩ (fun c75 => ?_) (fun c75 => ?_)
                  · skip
                    have nok : ¬ okD g (setG w 5 d) 5 := as_no (by omega) (by omega) (by omega) (by omega) hS (Or.inl (by omega))
                    refine z_iinc (L' := [_, _, _, _, _, _]) dX9_assign_155 rfl rfl ?_
                    refine e_goto 49 dX9_assign_158 rfl ?_
                    exact mEv_wk (by exact ⟨Or.inr rfl, Or.inr rfl, Or.inr rfl, Or.inr rfl, Or.inr rfl, Or.inl rfl, trivial⟩) (ih18 _ (by omega) (d + 1) u h18 rfl k19 k20 H21 H22 H23 H24 FR25 (by omega) (asP_sk (c := 5) (d := d) (by omega) (by omega) (by omega) (by omega) (by omega) pa IF rfl (by rw [Int.add_mul, Int.one_mul]; omega) nok) IB)
                  · skip
                    refine e_aload_n dX9_assign_91 rfl ?_
                    refine e_get (.ref (y + 4)) dX9_assign_92 tf_9_25 (congrArg Prod.fst (wk_s0 k19)) (congrArg va_rf (wk_r0_4 k19)) ?_
                    refine e_iload dX9_assign_95 rfl ?_
                    refine z_bipush (64) dX9_assign_97 rfl ?_
                    refine z_imul dX9_assign_99 ?_
                    refine e_iload dX9_assign_100 rfl ?_
                    refine z_iadd dX9_assign_102 ?_
                    refine z_zld (rI h18 (y + 4) ((d * 64) + (orZ (rI h18 (y + 5) d) (shlZ 1 5)))) dX9_assign_103 (wk_s4 k19) (by decide) (by omega) (by omega) rfl ?_
                    have y76 := mgT_b H22 (d := d) (s := (orZ (rI h18 (y + 5) d) (shlZ 1 5))) (by omega) (by omega) (by omega) (by omega)
                    refine z_if_eq 155 dX9_assign_104 rfl ⟨by omega, by omega⟩ (fun c77 => ?_) (fun c77 => ?_)
                    · skip
                      have nok : ¬ okD g (setG w 5 d) 5 := as_no (by omega) (by omega) (by omega) (by omega) hS (Or.inr (mgT_0 H22 (by omega) (by omega) (by omega) (by omega) (by assumption)))
                      refine z_iinc (L' := [_, _, _, _, _, _]) dX9_assign_155 rfl rfl ?_
                      refine e_goto 49 dX9_assign_158 rfl ?_
                      exact mEv_wk (by exact ⟨Or.inr rfl, Or.inr rfl, Or.inr rfl, Or.inr rfl, Or.inr rfl, Or.inl rfl, trivial⟩) (ih18 _ (by omega) (d + 1) u h18 rfl k19 k20 H21 H22 H23 H24 FR25 (by omega) (asP_sk (c := 5) (d := d) (by omega) (by omega) (by omega) (by omega) (by omega) pa IF rfl (by rw [Int.add_mul, Int.one_mul]; omega) nok) IB)
                    · skip
                      have mgy : mgP g d (orZ (rI h18 (y + 5) d) (shlZ 1 5)) := mgT_1 H22 (by omega) (by omega) (by omega) (by omega) (by assumption)
                      refine e_aload_n dX9_assign_107 rfl ?_
                      refine e_get (.ref (y + 5)) dX9_assign_108 tf_9_29 (congrArg Prod.fst (wk_s0 k19)) (congrArg va_rf (wk_r0_5 k19)) ?_
                      refine e_iload dX9_assign_111 rfl ?_
                      refine e_iload dX9_assign_113 rfl ?_
                      refine z_ist dX9_assign_115 (wk_s5 k19) (by decide) (by omega) (by omega) (fun h78 e79 => ?_)
                      have f80 := frm_1 e79
                      have k81 := lk_q (frm_s f80) k19
                      have k82 := lk_q (frm_s f80) k20
                      have H83 := isF_c f80 (fun a k q1 q2 => by omega) H21
                      have H84 := mgT_c f80 (fun a k q => by omega) H22
                      have H85 := abU_c f80 (fun a k q => by omega) H23
                      have H86 := bsS_c f80 (fun a k q => by omega) IB
                      have FR87 := frm_t FR25 (frm_m (S' := (fun a k => (a = y ∧ k = 1) ∨ a = y + 1 ∨ a = y + 2 ∨ a = y + 5)) f80 (fun a k q => by omega))
                      refine e_aload_n dX9_assign_116 rfl ?_
                      refine e_get (.ref (y + 2)) dX9_assign_117 tf_9_19 (congrArg Prod.fst (wk_s0 k81)) (congrArg va_rf (wk_r0_2 k81)) ?_
                      refine e_iload_n dX9_assign_120 rfl ?_
                      refine e_iload dX9_assign_121 rfl ?_
                      refine z_ist dX9_assign_123 (wk_s2 k81) (by decide) (by omega) (by omega) (fun h88 e89 => ?_)
                      have f90 := frm_1 e89
                      have k91 := lk_q (frm_s f90) k81
                      have k92 := lk_q (frm_s f90) k82
                      have H93 := isF_c f90 (fun a k q1 q2 => by omega) H83
                      have H94 := mgT_c f90 (fun a k q => by omega) H84
                      have H95 := abU_c f90 (fun a k q => by omega) H85
                      have H96 := bsS_c f90 (fun a k q => by omega) H86
                      have FR97 := frm_t FR87 (frm_m (S' := (fun a k => (a = y ∧ k = 1) ∨ a = y + 1 ∨ a = y + 2 ∨ a = y + 5)) f90 (fun a k q => by omega))
                      have A98 : asS h88 y (setG w 5 d) (5 + 1) := asS_y H24 (by omega) (by omega) (by omega) rfl (by exact ((frm_r f90 (by omega)).trans (rI_eq e79 ⟨by omega, by omega⟩))) (fun e a b n => ((frm_r f90 (by omega)).trans (frm_r f80 (by omega)))) (by exact (rI_eq e89 ⟨by omega, by omega⟩)) (fun e a b => ((frm_r f90 (by omega)).trans (frm_r f80 (by omega))))
                      have oky : okD g (setG w 5 d) 5 := as_ok (by omega) (by omega) (by omega) (by omega) (by omega) hS mgy
                      have pin := asP_in (c := 5) (d := d) (by omega) pa IF rfl oky (s + pr g 5) (by rw [if_pos (by omega)])
                      refine e_aload_n dX9_assign_124 rfl ?_
                      refine e_aload_n dX9_assign_125 rfl ?_
                      refine e_iload_n dX9_assign_126 rfl ?_
                      refine z_iconst (1) dX9_assign_127 rfl ?_
                      refine z_iadd dX9_assign_128 ?_
                      refine e_iload_n dX9_assign_129 rfl ?_
                      refine e_aload_n dX9_assign_130 rfl ?_
                      refine e_get (.ref (f + 14)) dX9_assign_131 tf_9_75 (congrArg Prod.fst (fg_s0 k92)) (congrArg va_rf (fg_r0_3 k92)) ?_
                      refine e_iload_n dX9_assign_134 rfl ?_
                      refine z_ild (pr g 5) dX9_assign_135 (fg_s14 k92) (by decide) (by omega) (by omega) (isF_pr H93 (by omega) (by omega)) ?_
                      have y99 := wC_c (isF_w H93).2.2 (show 0 ≤ 5 by omega) (by omega)
                      refine z_iadd dX9_assign_136 ?_
                      refine e_callS [.ref _, .ref _, .int _, .int _] dX9_assign_137 tm_9_52 rfl (Nat.le_of_ble_eq_true rfl) (Nat.le_refl _) (Nat.le_refl _) rfl (zp_X9_assign_6 k91 k92 H93 H94 H95 A98 H96 (s + (pr g 5)) ⟨by omega, by omega⟩ (by omega) pin (by omega) (fun  h100 f101 p102 p103 => ?_))
                      have k104 := lk_q (frm_s f101) k91
                      have k105 := lk_q (frm_s f101) k92
                      have H106 := isF_c f101 (fun a k q1 q2 => by omega) H93
                      have H107 := mgT_c f101 (fun a k q => by omega) H94
                      have H108 := abU_c f101 (fun a k q => by omega) H95
                      have FR109 := frm_t FR97 (frm_m (S' := (fun a k => (a = y ∧ k = 1) ∨ a = y + 1 ∨ a = y + 2 ∨ a = y + 5)) f101 (fun a k q => by omega))
                      obtain ⟨u2, F2, B2⟩ := p102
                      refine e_aload_n dX9_assign_140 rfl ?_
                      refine e_get (.ref (y + 5)) dX9_assign_141 tf_9_29 (congrArg Prod.fst (wk_s0 k104)) (congrArg va_rf (wk_r0_5 k104)) ?_
                      refine e_iload dX9_assign_144 rfl ?_
                      refine e_iload dX9_assign_146 rfl ?_
                      refine z_iconst (1) dX9_assign_148 rfl ?_
                      refine e_iload_n dX9_assign_149 rfl ?_
                      refine z_ishl dX9_assign_150 (by omega) (by omega) (by omega) (by omega) ?_
                      have y110 := shlZ_b 1 5
                      refine z_iconst (-1) dX9_assign_151 rfl ?_
                      refine z_inot dX9_assign_152 (by omega) ?_
                      refine z_iandn dX9_assign_153 (by omega) (by omega) ?_
                      have y111 := subS_b (orZ (rI h18 (y + 5) d) (shlZ 1 5)) (shlZ 1 5)
                      refine z_ist dX9_assign_154 (wk_s5 k104) (by decide) (by omega) (by omega) (fun h112 e113 => ?_)
                      have f114 := frm_1 e113
                      have k115 := lk_q (frm_s f114) k104
                      have k116 := lk_q (frm_s f114) k105
                      have H117 := isF_c f114 (fun a k q1 q2 => by omega) H106
                      have H118 := mgT_c f114 (fun a k q => by omega) H107
                      have H119 := abU_c f114 (fun a k q => by omega) H108
                      have FR120 := frm_t FR109 (frm_m (S' := (fun a k => (a = y ∧ k = 1) ∨ a = y + 1 ∨ a = y + 2 ∨ a = y + 5)) f114 (fun a k q => by omega))
                      have A121 : asS h112 y w 5 := asS_z p103 (by omega) (by omega) (by omega) hS ob (by exact (rI_eq e113 ⟨by omega, by omega⟩)) (fun e a b n => (frm_r f114 (by omega))) (fun e a b => (frm_r f114 (by omega)))
                      have B122 := bsS_c f114 (fun a k q => by omega) B2
                      refine z_iinc (L' := [_, _, _, _, _, _]) dX9_assign_155 rfl rfl ?_
                      refine e_goto 49 dX9_assign_158 rfl ?_
                      exact mEv_wk (by exact ⟨Or.inr rfl, Or.inr rfl, Or.inr rfl, Or.inr rfl, Or.inr rfl, Or.inl rfl, trivial⟩) (ih18 _ (by omega) (d + 1) u2 h112 rfl k115 k116 H117 H118 H119 A121 FR120 (by omega) (by have zz : cdZ (setG w 5 d) (5 + 1) + scZ (5 + 1) = cdZ w 5 + (d + 1) * scZ (5 + 1) := (by rw [cd_set (by omega), Int.add_mul, Int.one_mul]; omega); rw [← zz]; exact F2) B122)
            exact lp18 _ 0 v h rfl hk hk1 HF HT HU HA FR0 (by omega) (by rw [Int.zero_mul, Int.add_zero]; exact pa.2.2) HV
          · exfalso; omega
      · skip
        skip
        refine e_vret dX9_assign_25 rfl ⟨rfl, ?_⟩
        exact kq _ FR0 (asP_prune wf (by omega) pn pa HU HV (by omega)) HA
set_option maxHeartbeats 4000000 in
theorem zp_X9_assign_4 {ad : mA} {dd : Nat} {h : mH} {Q : mQ} {y f : Nat} {g w : Int → Int} {v : Int} (hk : wkk h y) (hk1 : fgk h f) (HF : isF h f g) (HT : mgT h y g) (HU : abU h y g) (HA : asS h y w 4) (HV : bsS h y g v)  (s : Int) (s_r : -2147483648 ≤ s ∧ s < 2147483648) (pn : (4 : Int) ≤ nc g) (pa : asP g w 4 s v) (pf : y + 7 ≤ f ∨ f + 16 ≤ y) (kq : ∀ h1, frm (fun a k => (a = y ∧ k = 1) ∨ a = y + 1 ∨ a = y + 2 ∨ a = y + 5) h h1 → (asE h1 y g (cdZ w 4 + scZ 4)) → (asS h1 y w 4) → Q none h1) : mCal TB0 ad (dd + 5) M_X9_assign [.ref y, .ref f, .int (zI 4), .int (zI s)] h 0 0 Q := by
  refine ⟨Nat.le_of_ble_eq_true rfl, ?_⟩
  show mEv TB0 ad M_X9_assign (dd + 5) (0, 0) (mCal TB0 ad (dd + 4)) (fun v h' z => z.1 = 0 ∧ Q v h') 0 [some (.ref y), some (.ref f), some (.int (zI 4)), some (.int (zI s)), none, none] [] h (0, 0)
  have FR0 : frm (fun a k => (a = y ∧ k = 1) ∨ a = y + 1 ∨ a = y + 2 ∨ a = y + 5) h h := frm_0 h
  have w1 := isF_n HF
  have w2 := isF_nd HF
  have w3 := isF_nu HF
  have w4 := isF_nc HF
  have W := isF_w HF
  have wf := isF_w HF
  have sb := asP_b W.2.2 (by omega) pn pa
  have ub := abU_b HU (c := 4) (by omega) (by omega)
  have bb := bsS_b W.2.2 HV
  refine e_iload_n dX9_assign_0 rfl ?_
  refine z_if_lt 25 dX9_assign_1 rfl ⟨by omega, by omega⟩ (fun c1 => ?_) (fun c1 => ?_)
  · exfalso; omega
  · skip
    refine e_iload_n dX9_assign_4 rfl ?_
    refine z_bipush (6) dX9_assign_5 rfl ?_
    refine z_icmp_gt 25 dX9_assign_7 rfl ⟨by omega, by omega⟩ ⟨by omega, by omega⟩ (fun c2 => ?_) (fun c2 => ?_)
    · exfalso; omega
    · skip
      refine e_iload_n dX9_assign_10 rfl ?_
      refine e_aload_n dX9_assign_11 rfl ?_
      refine e_get (.ref (y + 6)) dX9_assign_12 tf_9_32 (congrArg Prod.fst (wk_s0 hk)) (congrArg va_rf (wk_r0_6 hk)) ?_
      refine e_iload_n dX9_assign_15 rfl ?_
      refine z_ild (rI h (y + 6) 4) dX9_assign_16 (wk_s6 hk) (by decide) (by omega) (by omega) rfl ?_
      refine z_iadd dX9_assign_17 ?_
      refine e_aload_n dX9_assign_18 rfl ?_
      refine z_get (rI h y 1) dX9_assign_19 tf_9_15 (congrArg Prod.fst (wk_s0 hk)) (Or.inl rfl) rfl ?_
      refine z_icmp_gt 26 dX9_assign_22 rfl ⟨by omega, by omega⟩ ⟨by omega, by omega⟩ (fun c3 => ?_) (fun c3 => ?_)
      · skip
        refine e_iload_n dX9_assign_26 rfl ?_
        refine e_aload_n dX9_assign_27 rfl ?_
        refine z_get (nc g) dX9_assign_28 tf_9_56 (congrArg Prod.fst (fg_s0 hk1)) (Or.inl rfl) (isF_nc HF) ?_
        have y4 := isF_n HF
        refine z_icmp_ge 40 dX9_assign_31 rfl ⟨by omega, by omega⟩ ⟨by omega, by omega⟩ (fun c5 => ?_) (fun c5 => ?_)
        · skip
          skip
          refine e_aload_n dX9_assign_40 rfl ?_
          refine e_iload_n dX9_assign_41 rfl ?_
          refine e_callV [.int _] dX9_assign_42 tm_9_78 rfl (Nat.le_of_ble_eq_true rfl) (congrArg Prod.fst (wk_s0 hk)) (Nat.le_of_ble_eq_true rfl) (Nat.le_refl _) (Nat.le_refl _) rfl (zp_X9_keepRow hk s ⟨by omega, by omega⟩ (fun  h6 f7 p8 p9 => ?_))
          have k10 := lk_q (frm_s f7) hk
          have k11 := lk_q (frm_s f7) hk1
          have H12 := isF_c f7 (fun a k q1 q2 => by omega) HF
          have H13 := mgT_c f7 (fun a k q => by omega) HT
          have H14 := abU_c f7 (fun a k q => by omega) HU
          have H15 := asS_c f7 (fun a k q => by omega) HA
          have FR16 := frm_t FR0 (frm_m (S' := (fun a k => (a = y ∧ k = 1) ∨ a = y + 1 ∨ a = y + 2 ∨ a = y + 5)) f7 (fun a k q => by omega))
          skip
          refine e_vret dX9_assign_45 rfl ⟨rfl, ?_⟩
          exact kq _ FR16 (asP_leaf wf (by omega) (by omega) pa HU HV HA (by omega) p8 p9) H15
        · skip
          skip
          refine e_iload_n dX9_assign_34 rfl ?_
          refine z_bipush (6) dX9_assign_35 rfl ?_
          refine z_icmp_lt 46 dX9_assign_37 rfl ⟨by omega, by omega⟩ ⟨by omega, by omega⟩ (fun c17 => ?_) (fun c17 => ?_)
          · skip
            refine z_iconst (0) dX9_assign_46 rfl ?_
            refine e_istore (L' := [_, _, _, _, _, _]) dX9_assign_47 (Nat.le_of_ble_eq_true rfl) rfl ?_
            have lp18 : ∀ (n18 : Nat) (d u : Int) (h18 : mH), (nd g - d).toNat = n18 → (wkk h18 y) → (fgk h18 f) → (isF h18 f g) → (mgT h18 y g) → (abU h18 y g) → (asS h18 y w 4) → (frm (fun a k => (a = y ∧ k = 1) ∨ a = y + 1 ∨ a = y + 2 ∨ a = y + 5) h h18) → (0 ≤ d ∧ d ≤ nd g) → (fmax (vaW g) (suW g) (cdZ w 4 + d * scZ (4 + 1)) u) → (bsS h18 y g u) → mEv TB0 ad M_X9_assign (dd + 5) (0, 0) (mCal TB0 ad (dd + 4)) (fun v h' z => z.1 = 0 ∧ Q v h') 49 [some (.ref y), some (.ref f), some (.int (zI 4)), some (.int (zI s)), some (.int (zI d)), none] [] h18 (0, 0) := by
              intro n18
              induction n18 using Nat.strongRecOn with
              | ind n18 ih18 =>
              intro d u h18 hn18 k19 k20 H21 H22 H23 H24 FR25 I1 IF IB
              refine e_iload dX9_assign_49 rfl ?_
              have ib := bsS_b W.2.2 IB
              refine e_aload_n dX9_assign_51 rfl ?_
              refine e_get (.ref (f + 1)) dX9_assign_52 tf_9_82 (congrArg Prod.fst (fg_s0 k20)) (congrArg va_rf (fg_r0_0 k20)) ?_
              refine z_get (nd g) dX9_assign_55 tf_9_86 (congrArg Prod.fst (fg_s1 k20)) (Or.inl rfl) (isF_nd H21) ?_
              have y26 := isF_n H21
              refine z_icmp_ge 161 dX9_assign_58 rfl ⟨by omega, by omega⟩ ⟨by omega, by omega⟩ (fun c27 => ?_) (fun c27 => ?_)
              · skip
                have I6 := asP_hi (c := 4) (by omega) (by omega) (by omega) (by omega) pa (6 - d).toNat d (by omega) (by omega) IF
                refine e_aload_n dX9_assign_161 rfl ?_
                refine e_get (.ref (y + 2)) dX9_assign_162 tf_9_19 (congrArg Prod.fst (wk_s0 k19)) (congrArg va_rf (wk_r0_2 k19)) ?_
                refine e_iload_n dX9_assign_165 rfl ?_
                refine z_bipush (6) dX9_assign_166 rfl ?_
                refine z_ist dX9_assign_168 (wk_s2 k19) (by decide) (by omega) (by omega) (fun h28 e29 => ?_)
                have f30 := frm_1 e29
                have k31 := lk_q (frm_s f30) k19
                have k32 := lk_q (frm_s f30) k20
                have H33 := isF_c f30 (fun a k q1 q2 => by omega) H21
                have H34 := mgT_c f30 (fun a k q => by omega) H22
                have H35 := abU_c f30 (fun a k q => by omega) H23
                have H36 := bsS_c f30 (fun a k q => by omega) IB
                have FR37 := frm_t FR25 (frm_m (S' := (fun a k => (a = y ∧ k = 1) ∨ a = y + 1 ∨ a = y + 2 ∨ a = y + 5)) f30 (fun a k q => by omega))
                have A38 : asS h28 y (setG w 4 6) (4 + 1) := asS_6 H24 (by omega) (fun e a b => (frm_r f30 (by omega))) (by exact (rI_eq e29 ⟨by omega, by omega⟩)) (fun e a b => (frm_r f30 (by omega)))
                have pin := asP_in (c := 4) (d := 6) (by omega) pa I6 rfl (Or.inl (if_pos rfl)) s (by rw [if_neg (by omega)]; omega)
                refine e_aload_n dX9_assign_169 rfl ?_
                refine e_aload_n dX9_assign_170 rfl ?_
                refine e_iload_n dX9_assign_171 rfl ?_
                refine z_iconst (1) dX9_assign_172 rfl ?_
                refine z_iadd dX9_assign_173 ?_
                refine e_iload_n dX9_assign_174 rfl ?_
                refine e_callS [.ref _, .ref _, .int _, .int _] dX9_assign_175 tm_9_52 rfl (Nat.le_of_ble_eq_true rfl) (Nat.le_refl _) (Nat.le_refl _) rfl (zp_X9_assign_5 k31 k32 H33 H34 H35 A38 H36 s ⟨by omega, by omega⟩ (by omega) pin (by omega) (fun  h39 f40 p41 p42 => ?_))
                have k43 := lk_q (frm_s f40) k31
                have k44 := lk_q (frm_s f40) k32
                have H45 := isF_c f40 (fun a k q1 q2 => by omega) H33
                have H46 := mgT_c f40 (fun a k q => by omega) H34
                have H47 := abU_c f40 (fun a k q => by omega) H35
                have FR48 := frm_t FR37 (frm_m (S' := (fun a k => (a = y ∧ k = 1) ∨ a = y + 1 ∨ a = y + 2 ∨ a = y + 5)) f40 (fun a k q => by omega))
                skip
                refine e_vret dX9_assign_178 rfl ⟨rfl, ?_⟩
                have ZZ : cdZ (setG w 4 6) (4 + 1) + scZ (4 + 1) = cdZ w 4 + scZ 4 := by rw [cd_set (by omega), (sc_s (n := 4) (by omega) (by omega)).1]; omega
                exact kq _ FR48 (by rw [← ZZ]; exact p41) (asS_q p42 (by omega))
              · skip
                refine e_iload dX9_assign_61 rfl ?_
                refine z_bipush (6) dX9_assign_63 rfl ?_
                refine z_icmp_ge 161 dX9_assign_65 rfl ⟨by omega, by omega⟩ ⟨by omega, by omega⟩ (fun c49 => ?_) (fun c49 => ?_)
                · skip
                  have I6 := asP_hi (c := 4) (by omega) (by omega) (by omega) (by omega) pa (6 - d).toNat d (by omega) (by omega) IF
                  refine e_aload_n dX9_assign_161 rfl ?_
                  refine e_get (.ref (y + 2)) dX9_assign_162 tf_9_19 (congrArg Prod.fst (wk_s0 k19)) (congrArg va_rf (wk_r0_2 k19)) ?_
                  refine e_iload_n dX9_assign_165 rfl ?_
                  refine z_bipush (6) dX9_assign_166 rfl ?_
                  refine z_ist dX9_assign_168 (wk_s2 k19) (by decide) (by omega) (by omega) (fun h50 e51 => ?_)
                  have f52 := frm_1 e51
                  have k53 := lk_q (frm_s f52) k19
                  have k54 := lk_q (frm_s f52) k20
                  have H55 := isF_c f52 (fun a k q1 q2 => by omega) H21
                  have H56 := mgT_c f52 (fun a k q => by omega) H22
                  have H57 := abU_c f52 (fun a k q => by omega) H23
                  have H58 := bsS_c f52 (fun a k q => by omega) IB
                  have FR59 := frm_t FR25 (frm_m (S' := (fun a k => (a = y ∧ k = 1) ∨ a = y + 1 ∨ a = y + 2 ∨ a = y + 5)) f52 (fun a k q => by omega))
                  have A60 : asS h50 y (setG w 4 6) (4 + 1) := asS_6 H24 (by omega) (fun e a b => (frm_r f52 (by omega))) (by exact (rI_eq e51 ⟨by omega, by omega⟩)) (fun e a b => (frm_r f52 (by omega)))
                  have pin := asP_in (c := 4) (d := 6) (by omega) pa I6 rfl (Or.inl (if_pos rfl)) s (by rw [if_neg (by omega)]; omega)
                  refine e_aload_n dX9_assign_169 rfl ?_
                  refine e_aload_n dX9_assign_170 rfl ?_
                  refine e_iload_n dX9_assign_171 rfl ?_
                  refine z_iconst (1) dX9_assign_172 rfl ?_
                  refine z_iadd dX9_assign_173 ?_
                  refine e_iload_n dX9_assign_174 rfl ?_
                  refine e_callS [.ref _, .ref _, .int _, .int _] dX9_assign_175 tm_9_52 rfl (Nat.le_of_ble_eq_true rfl) (Nat.le_refl _) (Nat.le_refl _) rfl (zp_X9_assign_5 k53 k54 H55 H56 H57 A60 H58 s ⟨by omega, by omega⟩ (by omega) pin (by omega) (fun  h61 f62 p63 p64 => ?_))
                  have k65 := lk_q (frm_s f62) k53
                  have k66 := lk_q (frm_s f62) k54
                  have H67 := isF_c f62 (fun a k q1 q2 => by omega) H55
                  have H68 := mgT_c f62 (fun a k q => by omega) H56
                  have H69 := abU_c f62 (fun a k q => by omega) H57
                  have FR70 := frm_t FR59 (frm_m (S' := (fun a k => (a = y ∧ k = 1) ∨ a = y + 1 ∨ a = y + 2 ∨ a = y + 5)) f62 (fun a k q => by omega))
                  skip
                  refine e_vret dX9_assign_178 rfl ⟨rfl, ?_⟩
                  have ZZ : cdZ (setG w 4 6) (4 + 1) + scZ (4 + 1) = cdZ w 4 + scZ 4 := by rw [cd_set (by omega), (sc_s (n := 4) (by omega) (by omega)).1]; omega
                  exact kq _ FR70 (by rw [← ZZ]; exact p63) (asS_q p64 (by omega))
                · skip
                  refine e_aload_n dX9_assign_68 rfl ?_
                  refine e_get (.ref (y + 5)) dX9_assign_69 tf_9_29 (congrArg Prod.fst (wk_s0 k19)) (congrArg va_rf (wk_r0_5 k19)) ?_
                  refine e_iload dX9_assign_72 rfl ?_
                  refine z_ild (rI h18 (y + 5) d) dX9_assign_74 (wk_s5 k19) (by decide) (by omega) (by omega) rfl ?_
                  have y71 := ((H24).1 d (by omega) (by omega)).1
                  refine z_iconst (1) dX9_assign_75 rfl ?_
                  refine e_iload_n dX9_assign_76 rfl ?_
                  refine z_ishl dX9_assign_77 (by omega) (by omega) (by omega) (by omega) ?_
                  have y72 := shlZ_b 1 4
                  refine z_ior dX9_assign_78 (by omega) (by omega) (by omega) (by omega) ?_
                  have y73 := orZ_b (rI h18 (y + 5) d) (shlZ 1 4)
                  refine e_istore (L' := [_, _, _, _, _, _]) dX9_assign_79 (Nat.le_of_ble_eq_true rfl) rfl ?_
                  have hS := asS_h H24 (c := 4) (d := d) (by omega) (by omega)
                  have ob := or_b (k := 4) ((H24).1 d (by omega) (by omega)).1.2 (by omega)
                  have ob : 0 ≤ (orZ (rI h18 (y + 5) d) (shlZ 1 4)) ∧ (orZ (rI h18 (y + 5) d) (shlZ 1 4)) < 64 := ob
                  refine e_aload_n dX9_assign_81 rfl ?_
                  refine e_iload dX9_assign_82 rfl ?_
                  refine e_callV [.int _] dX9_assign_84 tm_9_91 rfl (Nat.le_of_ble_eq_true rfl) (congrArg Prod.fst (fg_s0 k20)) (Nat.le_of_ble_eq_true rfl) (Nat.le_refl _) (Nat.le_refl _) rfl (zp_X2_upOf k20 H21 d ⟨by omega, by omega⟩ ?_)
                  have y74 := upv_s (isF_w H21) d
                  refine z_iconst (-1) dX9_assign_87 rfl ?_
                  refine z_icmp_eq 155 dX9_assign_88 rfl ⟨by omega, by omega⟩ ⟨by omega, by omega⟩ (fun c75 => ?_) (fun c75 => ?_)
                  · skip
                    have nok : ¬ okD g (setG w 4 d) 4 := as_no (by omega) (by omega) (by omega) (by omega) hS (Or.inl (by omega))
                    refine z_iinc (L' := [_, _, _, _, _, _]) dX9_assign_155 rfl rfl ?_
                    refine e_goto 49 dX9_assign_158 rfl ?_
                    exact mEv_wk (by exact ⟨Or.inr rfl, Or.inr rfl, Or.inr rfl, Or.inr rfl, Or.inr rfl, Or.inl rfl, trivial⟩) (ih18 _ (by omega) (d + 1) u h18 rfl k19 k20 H21 H22 H23 H24 FR25 (by omega) (asP_sk (c := 4) (d := d) (by omega) (by omega) (by omega) (by omega) (by omega) pa IF rfl (by rw [Int.add_mul, Int.one_mul]; omega) nok) IB)
                  · skip
                    refine e_aload_n dX9_assign_91 rfl ?_
                    refine e_get (.ref (y + 4)) dX9_assign_92 tf_9_25 (congrArg Prod.fst (wk_s0 k19)) (congrArg va_rf (wk_r0_4 k19)) ?_
                    refine e_iload dX9_assign_95 rfl ?_
                    refine z_bipush (64) dX9_assign_97 rfl ?_
                    refine z_imul dX9_assign_99 ?_
                    refine e_iload dX9_assign_100 rfl ?_
                    refine z_iadd dX9_assign_102 ?_
                    refine z_zld (rI h18 (y + 4) ((d * 64) + (orZ (rI h18 (y + 5) d) (shlZ 1 4)))) dX9_assign_103 (wk_s4 k19) (by decide) (by omega) (by omega) rfl ?_
                    have y76 := mgT_b H22 (d := d) (s := (orZ (rI h18 (y + 5) d) (shlZ 1 4))) (by omega) (by omega) (by omega) (by omega)
                    refine z_if_eq 155 dX9_assign_104 rfl ⟨by omega, by omega⟩ (fun c77 => ?_) (fun c77 => ?_)
                    · skip
                      have nok : ¬ okD g (setG w 4 d) 4 := as_no (by omega) (by omega) (by omega) (by omega) hS (Or.inr (mgT_0 H22 (by omega) (by omega) (by omega) (by omega) (by assumption)))
                      refine z_iinc (L' := [_, _, _, _, _, _]) dX9_assign_155 rfl rfl ?_
                      refine e_goto 49 dX9_assign_158 rfl ?_
                      exact mEv_wk (by exact ⟨Or.inr rfl, Or.inr rfl, Or.inr rfl, Or.inr rfl, Or.inr rfl, Or.inl rfl, trivial⟩) (ih18 _ (by omega) (d + 1) u h18 rfl k19 k20 H21 H22 H23 H24 FR25 (by omega) (asP_sk (c := 4) (d := d) (by omega) (by omega) (by omega) (by omega) (by omega) pa IF rfl (by rw [Int.add_mul, Int.one_mul]; omega) nok) IB)
                    · skip
                      have mgy : mgP g d (orZ (rI h18 (y + 5) d) (shlZ 1 4)) := mgT_1 H22 (by omega) (by omega) (by omega) (by omega) (by assumption)
                      refine e_aload_n dX9_assign_107 rfl ?_
                      refine e_get (.ref (y + 5)) dX9_assign_108 tf_9_29 (congrArg Prod.fst (wk_s0 k19)) (congrArg va_rf (wk_r0_5 k19)) ?_
                      refine e_iload dX9_assign_111 rfl ?_
                      refine e_iload dX9_assign_113 rfl ?_
                      refine z_ist dX9_assign_115 (wk_s5 k19) (by decide) (by omega) (by omega) (fun h78 e79 => ?_)
                      have f80 := frm_1 e79
                      have k81 := lk_q (frm_s f80) k19
                      have k82 := lk_q (frm_s f80) k20
                      have H83 := isF_c f80 (fun a k q1 q2 => by omega) H21
                      have H84 := mgT_c f80 (fun a k q => by omega) H22
                      have H85 := abU_c f80 (fun a k q => by omega) H23
                      have H86 := bsS_c f80 (fun a k q => by omega) IB
                      have FR87 := frm_t FR25 (frm_m (S' := (fun a k => (a = y ∧ k = 1) ∨ a = y + 1 ∨ a = y + 2 ∨ a = y + 5)) f80 (fun a k q => by omega))
                      refine e_aload_n dX9_assign_116 rfl ?_
                      refine e_get (.ref (y + 2)) dX9_assign_117 tf_9_19 (congrArg Prod.fst (wk_s0 k81)) (congrArg va_rf (wk_r0_2 k81)) ?_
                      refine e_iload_n dX9_assign_120 rfl ?_
                      refine e_iload dX9_assign_121 rfl ?_
                      refine z_ist dX9_assign_123 (wk_s2 k81) (by decide) (by omega) (by omega) (fun h88 e89 => ?_)
                      have f90 := frm_1 e89
                      have k91 := lk_q (frm_s f90) k81
                      have k92 := lk_q (frm_s f90) k82
                      have H93 := isF_c f90 (fun a k q1 q2 => by omega) H83
                      have H94 := mgT_c f90 (fun a k q => by omega) H84
                      have H95 := abU_c f90 (fun a k q => by omega) H85
                      have H96 := bsS_c f90 (fun a k q => by omega) H86
                      have FR97 := frm_t FR87 (frm_m (S' := (fun a k => (a = y ∧ k = 1) ∨ a = y + 1 ∨ a = y + 2 ∨ a = y + 5)) f90 (fun a k q => by omega))
                      have A98 : asS h88 y (setG w 4 d) (4 + 1) := asS_y H24 (by omega) (by omega) (by omega) rfl (by exact ((frm_r f90 (by omega)).trans (rI_eq e79 ⟨by omega, by omega⟩))) (fun e a b n => ((frm_r f90 (by omega)).trans (frm_r f80 (by omega)))) (by exact (rI_eq e89 ⟨by omega, by omega⟩)) (fun e a b => ((frm_r f90 (by omega)).trans (frm_r f80 (by omega))))
                      have oky : okD g (setG w 4 d) 4 := as_ok (by omega) (by omega) (by omega) (by omega) (by omega) hS mgy
                      have pin := asP_in (c := 4) (d := d) (by omega) pa IF rfl oky (s + pr g 4) (by rw [if_pos (by omega)])
                      refine e_aload_n dX9_assign_124 rfl ?_
                      refine e_aload_n dX9_assign_125 rfl ?_
                      refine e_iload_n dX9_assign_126 rfl ?_
                      refine z_iconst (1) dX9_assign_127 rfl ?_
                      refine z_iadd dX9_assign_128 ?_
                      refine e_iload_n dX9_assign_129 rfl ?_
                      refine e_aload_n dX9_assign_130 rfl ?_
                      refine e_get (.ref (f + 14)) dX9_assign_131 tf_9_75 (congrArg Prod.fst (fg_s0 k92)) (congrArg va_rf (fg_r0_3 k92)) ?_
                      refine e_iload_n dX9_assign_134 rfl ?_
                      refine z_ild (pr g 4) dX9_assign_135 (fg_s14 k92) (by decide) (by omega) (by omega) (isF_pr H93 (by omega) (by omega)) ?_
                      have y99 := wC_c (isF_w H93).2.2 (show 0 ≤ 4 by omega) (by omega)
                      refine z_iadd dX9_assign_136 ?_
                      refine e_callS [.ref _, .ref _, .int _, .int _] dX9_assign_137 tm_9_52 rfl (Nat.le_of_ble_eq_true rfl) (Nat.le_refl _) (Nat.le_refl _) rfl (zp_X9_assign_5 k91 k92 H93 H94 H95 A98 H96 (s + (pr g 4)) ⟨by omega, by omega⟩ (by omega) pin (by omega) (fun  h100 f101 p102 p103 => ?_))
                      have k104 := lk_q (frm_s f101) k91
                      have k105 := lk_q (frm_s f101) k92
                      have H106 := isF_c f101 (fun a k q1 q2 => by omega) H93
                      have H107 := mgT_c f101 (fun a k q => by omega) H94
                      have H108 := abU_c f101 (fun a k q => by omega) H95
                      have FR109 := frm_t FR97 (frm_m (S' := (fun a k => (a = y ∧ k = 1) ∨ a = y + 1 ∨ a = y + 2 ∨ a = y + 5)) f101 (fun a k q => by omega))
                      obtain ⟨u2, F2, B2⟩ := p102
                      refine e_aload_n dX9_assign_140 rfl ?_
                      refine e_get (.ref (y + 5)) dX9_assign_141 tf_9_29 (congrArg Prod.fst (wk_s0 k104)) (congrArg va_rf (wk_r0_5 k104)) ?_
                      refine e_iload dX9_assign_144 rfl ?_
                      refine e_iload dX9_assign_146 rfl ?_
                      refine z_iconst (1) dX9_assign_148 rfl ?_
                      refine e_iload_n dX9_assign_149 rfl ?_
                      refine z_ishl dX9_assign_150 (by omega) (by omega) (by omega) (by omega) ?_
                      have y110 := shlZ_b 1 4
                      refine z_iconst (-1) dX9_assign_151 rfl ?_
                      refine z_inot dX9_assign_152 (by omega) ?_
                      refine z_iandn dX9_assign_153 (by omega) (by omega) ?_
                      have y111 := subS_b (orZ (rI h18 (y + 5) d) (shlZ 1 4)) (shlZ 1 4)
                      refine z_ist dX9_assign_154 (wk_s5 k104) (by decide) (by omega) (by omega) (fun h112 e113 => ?_)
                      have f114 := frm_1 e113
                      have k115 := lk_q (frm_s f114) k104
                      have k116 := lk_q (frm_s f114) k105
                      have H117 := isF_c f114 (fun a k q1 q2 => by omega) H106
                      have H118 := mgT_c f114 (fun a k q => by omega) H107
                      have H119 := abU_c f114 (fun a k q => by omega) H108
                      have FR120 := frm_t FR109 (frm_m (S' := (fun a k => (a = y ∧ k = 1) ∨ a = y + 1 ∨ a = y + 2 ∨ a = y + 5)) f114 (fun a k q => by omega))
                      have A121 : asS h112 y w 4 := asS_z p103 (by omega) (by omega) (by omega) hS ob (by exact (rI_eq e113 ⟨by omega, by omega⟩)) (fun e a b n => (frm_r f114 (by omega))) (fun e a b => (frm_r f114 (by omega)))
                      have B122 := bsS_c f114 (fun a k q => by omega) B2
                      refine z_iinc (L' := [_, _, _, _, _, _]) dX9_assign_155 rfl rfl ?_
                      refine e_goto 49 dX9_assign_158 rfl ?_
                      exact mEv_wk (by exact ⟨Or.inr rfl, Or.inr rfl, Or.inr rfl, Or.inr rfl, Or.inr rfl, Or.inl rfl, trivial⟩) (ih18 _ (by omega) (d + 1) u2 h112 rfl k115 k116 H117 H118 H119 A121 FR120 (by omega) (by have zz : cdZ (setG w 4 d) (4 + 1) + scZ (4 + 1) = cdZ w 4 + (d + 1) * scZ (4 + 1) := (by rw [cd_set (by omega), Int.add_mul, Int.one_mul]; omega); rw [← zz]; exact F2) B122)
            exact lp18 _ 0 v h rfl hk hk1 HF HT HU HA FR0 (by omega) (by rw [Int.zero_mul, Int.add_zero]; exact pa.2.2) HV
          · exfalso; omega
      · skip
        skip
        refine e_vret dX9_assign_25 rfl ⟨rfl, ?_⟩
        exact kq _ FR0 (asP_prune wf (by omega) pn pa HU HV (by omega)) HA
set_option maxHeartbeats 4000000 in
theorem zp_X9_assign_3 {ad : mA} {dd : Nat} {h : mH} {Q : mQ} {y f : Nat} {g w : Int → Int} {v : Int} (hk : wkk h y) (hk1 : fgk h f) (HF : isF h f g) (HT : mgT h y g) (HU : abU h y g) (HA : asS h y w 3) (HV : bsS h y g v)  (s : Int) (s_r : -2147483648 ≤ s ∧ s < 2147483648) (pn : (3 : Int) ≤ nc g) (pa : asP g w 3 s v) (pf : y + 7 ≤ f ∨ f + 16 ≤ y) (kq : ∀ h1, frm (fun a k => (a = y ∧ k = 1) ∨ a = y + 1 ∨ a = y + 2 ∨ a = y + 5) h h1 → (asE h1 y g (cdZ w 3 + scZ 3)) → (asS h1 y w 3) → Q none h1) : mCal TB0 ad (dd + 6) M_X9_assign [.ref y, .ref f, .int (zI 3), .int (zI s)] h 0 0 Q := by
  refine ⟨Nat.le_of_ble_eq_true rfl, ?_⟩
  show mEv TB0 ad M_X9_assign (dd + 6) (0, 0) (mCal TB0 ad (dd + 5)) (fun v h' z => z.1 = 0 ∧ Q v h') 0 [some (.ref y), some (.ref f), some (.int (zI 3)), some (.int (zI s)), none, none] [] h (0, 0)
  have FR0 : frm (fun a k => (a = y ∧ k = 1) ∨ a = y + 1 ∨ a = y + 2 ∨ a = y + 5) h h := frm_0 h
  have w1 := isF_n HF
  have w2 := isF_nd HF
  have w3 := isF_nu HF
  have w4 := isF_nc HF
  have W := isF_w HF
  have wf := isF_w HF
  have sb := asP_b W.2.2 (by omega) pn pa
  have ub := abU_b HU (c := 3) (by omega) (by omega)
  have bb := bsS_b W.2.2 HV
  refine e_iload_n dX9_assign_0 rfl ?_
  refine z_if_lt 25 dX9_assign_1 rfl ⟨by omega, by omega⟩ (fun c1 => ?_) (fun c1 => ?_)
  · exfalso; omega
  · skip
    refine e_iload_n dX9_assign_4 rfl ?_
    refine z_bipush (6) dX9_assign_5 rfl ?_
    refine z_icmp_gt 25 dX9_assign_7 rfl ⟨by omega, by omega⟩ ⟨by omega, by omega⟩ (fun c2 => ?_) (fun c2 => ?_)
    · exfalso; omega
    · skip
      refine e_iload_n dX9_assign_10 rfl ?_
      refine e_aload_n dX9_assign_11 rfl ?_
      refine e_get (.ref (y + 6)) dX9_assign_12 tf_9_32 (congrArg Prod.fst (wk_s0 hk)) (congrArg va_rf (wk_r0_6 hk)) ?_
      refine e_iload_n dX9_assign_15 rfl ?_
      refine z_ild (rI h (y + 6) 3) dX9_assign_16 (wk_s6 hk) (by decide) (by omega) (by omega) rfl ?_
      refine z_iadd dX9_assign_17 ?_
      refine e_aload_n dX9_assign_18 rfl ?_
      refine z_get (rI h y 1) dX9_assign_19 tf_9_15 (congrArg Prod.fst (wk_s0 hk)) (Or.inl rfl) rfl ?_
      refine z_icmp_gt 26 dX9_assign_22 rfl ⟨by omega, by omega⟩ ⟨by omega, by omega⟩ (fun c3 => ?_) (fun c3 => ?_)
      · skip
        refine e_iload_n dX9_assign_26 rfl ?_
        refine e_aload_n dX9_assign_27 rfl ?_
        refine z_get (nc g) dX9_assign_28 tf_9_56 (congrArg Prod.fst (fg_s0 hk1)) (Or.inl rfl) (isF_nc HF) ?_
        have y4 := isF_n HF
        refine z_icmp_ge 40 dX9_assign_31 rfl ⟨by omega, by omega⟩ ⟨by omega, by omega⟩ (fun c5 => ?_) (fun c5 => ?_)
        · skip
          skip
          refine e_aload_n dX9_assign_40 rfl ?_
          refine e_iload_n dX9_assign_41 rfl ?_
          refine e_callV [.int _] dX9_assign_42 tm_9_78 rfl (Nat.le_of_ble_eq_true rfl) (congrArg Prod.fst (wk_s0 hk)) (Nat.le_of_ble_eq_true rfl) (Nat.le_refl _) (Nat.le_refl _) rfl (zp_X9_keepRow hk s ⟨by omega, by omega⟩ (fun  h6 f7 p8 p9 => ?_))
          have k10 := lk_q (frm_s f7) hk
          have k11 := lk_q (frm_s f7) hk1
          have H12 := isF_c f7 (fun a k q1 q2 => by omega) HF
          have H13 := mgT_c f7 (fun a k q => by omega) HT
          have H14 := abU_c f7 (fun a k q => by omega) HU
          have H15 := asS_c f7 (fun a k q => by omega) HA
          have FR16 := frm_t FR0 (frm_m (S' := (fun a k => (a = y ∧ k = 1) ∨ a = y + 1 ∨ a = y + 2 ∨ a = y + 5)) f7 (fun a k q => by omega))
          skip
          refine e_vret dX9_assign_45 rfl ⟨rfl, ?_⟩
          exact kq _ FR16 (asP_leaf wf (by omega) (by omega) pa HU HV HA (by omega) p8 p9) H15
        · skip
          skip
          refine e_iload_n dX9_assign_34 rfl ?_
          refine z_bipush (6) dX9_assign_35 rfl ?_
          refine z_icmp_lt 46 dX9_assign_37 rfl ⟨by omega, by omega⟩ ⟨by omega, by omega⟩ (fun c17 => ?_) (fun c17 => ?_)
          · skip
            refine z_iconst (0) dX9_assign_46 rfl ?_
            refine e_istore (L' := [_, _, _, _, _, _]) dX9_assign_47 (Nat.le_of_ble_eq_true rfl) rfl ?_
            have lp18 : ∀ (n18 : Nat) (d u : Int) (h18 : mH), (nd g - d).toNat = n18 → (wkk h18 y) → (fgk h18 f) → (isF h18 f g) → (mgT h18 y g) → (abU h18 y g) → (asS h18 y w 3) → (frm (fun a k => (a = y ∧ k = 1) ∨ a = y + 1 ∨ a = y + 2 ∨ a = y + 5) h h18) → (0 ≤ d ∧ d ≤ nd g) → (fmax (vaW g) (suW g) (cdZ w 3 + d * scZ (3 + 1)) u) → (bsS h18 y g u) → mEv TB0 ad M_X9_assign (dd + 6) (0, 0) (mCal TB0 ad (dd + 5)) (fun v h' z => z.1 = 0 ∧ Q v h') 49 [some (.ref y), some (.ref f), some (.int (zI 3)), some (.int (zI s)), some (.int (zI d)), none] [] h18 (0, 0) := by
              intro n18
              induction n18 using Nat.strongRecOn with
              | ind n18 ih18 =>
              intro d u h18 hn18 k19 k20 H21 H22 H23 H24 FR25 I1 IF IB
              refine e_iload dX9_assign_49 rfl ?_
              have ib := bsS_b W.2.2 IB
              refine e_aload_n dX9_assign_51 rfl ?_
              refine e_get (.ref (f + 1)) dX9_assign_52 tf_9_82 (congrArg Prod.fst (fg_s0 k20)) (congrArg va_rf (fg_r0_0 k20)) ?_
              refine z_get (nd g) dX9_assign_55 tf_9_86 (congrArg Prod.fst (fg_s1 k20)) (Or.inl rfl) (isF_nd H21) ?_
              have y26 := isF_n H21
              refine z_icmp_ge 161 dX9_assign_58 rfl ⟨by omega, by omega⟩ ⟨by omega, by omega⟩ (fun c27 => ?_) (fun c27 => ?_)
              · skip
                have I6 := asP_hi (c := 3) (by omega) (by omega) (by omega) (by omega) pa (6 - d).toNat d (by omega) (by omega) IF
                refine e_aload_n dX9_assign_161 rfl ?_
                refine e_get (.ref (y + 2)) dX9_assign_162 tf_9_19 (congrArg Prod.fst (wk_s0 k19)) (congrArg va_rf (wk_r0_2 k19)) ?_
                refine e_iload_n dX9_assign_165 rfl ?_
                refine z_bipush (6) dX9_assign_166 rfl ?_
                refine z_ist dX9_assign_168 (wk_s2 k19) (by decide) (by omega) (by omega) (fun h28 e29 => ?_)
                have f30 := frm_1 e29
                have k31 := lk_q (frm_s f30) k19
                have k32 := lk_q (frm_s f30) k20
                have H33 := isF_c f30 (fun a k q1 q2 => by omega) H21
                have H34 := mgT_c f30 (fun a k q => by omega) H22
                have H35 := abU_c f30 (fun a k q => by omega) H23
                have H36 := bsS_c f30 (fun a k q => by omega) IB
                have FR37 := frm_t FR25 (frm_m (S' := (fun a k => (a = y ∧ k = 1) ∨ a = y + 1 ∨ a = y + 2 ∨ a = y + 5)) f30 (fun a k q => by omega))
                have A38 : asS h28 y (setG w 3 6) (3 + 1) := asS_6 H24 (by omega) (fun e a b => (frm_r f30 (by omega))) (by exact (rI_eq e29 ⟨by omega, by omega⟩)) (fun e a b => (frm_r f30 (by omega)))
                have pin := asP_in (c := 3) (d := 6) (by omega) pa I6 rfl (Or.inl (if_pos rfl)) s (by rw [if_neg (by omega)]; omega)
                refine e_aload_n dX9_assign_169 rfl ?_
                refine e_aload_n dX9_assign_170 rfl ?_
                refine e_iload_n dX9_assign_171 rfl ?_
                refine z_iconst (1) dX9_assign_172 rfl ?_
                refine z_iadd dX9_assign_173 ?_
                refine e_iload_n dX9_assign_174 rfl ?_
                refine e_callS [.ref _, .ref _, .int _, .int _] dX9_assign_175 tm_9_52 rfl (Nat.le_of_ble_eq_true rfl) (Nat.le_refl _) (Nat.le_refl _) rfl (zp_X9_assign_4 k31 k32 H33 H34 H35 A38 H36 s ⟨by omega, by omega⟩ (by omega) pin (by omega) (fun  h39 f40 p41 p42 => ?_))
                have k43 := lk_q (frm_s f40) k31
                have k44 := lk_q (frm_s f40) k32
                have H45 := isF_c f40 (fun a k q1 q2 => by omega) H33
                have H46 := mgT_c f40 (fun a k q => by omega) H34
                have H47 := abU_c f40 (fun a k q => by omega) H35
                have FR48 := frm_t FR37 (frm_m (S' := (fun a k => (a = y ∧ k = 1) ∨ a = y + 1 ∨ a = y + 2 ∨ a = y + 5)) f40 (fun a k q => by omega))
                skip
                refine e_vret dX9_assign_178 rfl ⟨rfl, ?_⟩
                have ZZ : cdZ (setG w 3 6) (3 + 1) + scZ (3 + 1) = cdZ w 3 + scZ 3 := by rw [cd_set (by omega), (sc_s (n := 3) (by omega) (by omega)).1]; omega
                exact kq _ FR48 (by rw [← ZZ]; exact p41) (asS_q p42 (by omega))
              · skip
                refine e_iload dX9_assign_61 rfl ?_
                refine z_bipush (6) dX9_assign_63 rfl ?_
                refine z_icmp_ge 161 dX9_assign_65 rfl ⟨by omega, by omega⟩ ⟨by omega, by omega⟩ (fun c49 => ?_) (fun c49 => ?_)
                · skip
                  have I6 := asP_hi (c := 3) (by omega) (by omega) (by omega) (by omega) pa (6 - d).toNat d (by omega) (by omega) IF
                  refine e_aload_n dX9_assign_161 rfl ?_
                  refine e_get (.ref (y + 2)) dX9_assign_162 tf_9_19 (congrArg Prod.fst (wk_s0 k19)) (congrArg va_rf (wk_r0_2 k19)) ?_
                  refine e_iload_n dX9_assign_165 rfl ?_
                  refine z_bipush (6) dX9_assign_166 rfl ?_
                  refine z_ist dX9_assign_168 (wk_s2 k19) (by decide) (by omega) (by omega) (fun h50 e51 => ?_)
                  have f52 := frm_1 e51
                  have k53 := lk_q (frm_s f52) k19
                  have k54 := lk_q (frm_s f52) k20
                  have H55 := isF_c f52 (fun a k q1 q2 => by omega) H21
                  have H56 := mgT_c f52 (fun a k q => by omega) H22
                  have H57 := abU_c f52 (fun a k q => by omega) H23
                  have H58 := bsS_c f52 (fun a k q => by omega) IB
                  have FR59 := frm_t FR25 (frm_m (S' := (fun a k => (a = y ∧ k = 1) ∨ a = y + 1 ∨ a = y + 2 ∨ a = y + 5)) f52 (fun a k q => by omega))
                  have A60 : asS h50 y (setG w 3 6) (3 + 1) := asS_6 H24 (by omega) (fun e a b => (frm_r f52 (by omega))) (by exact (rI_eq e51 ⟨by omega, by omega⟩)) (fun e a b => (frm_r f52 (by omega)))
                  have pin := asP_in (c := 3) (d := 6) (by omega) pa I6 rfl (Or.inl (if_pos rfl)) s (by rw [if_neg (by omega)]; omega)
                  refine e_aload_n dX9_assign_169 rfl ?_
                  refine e_aload_n dX9_assign_170 rfl ?_
                  refine e_iload_n dX9_assign_171 rfl ?_
                  refine z_iconst (1) dX9_assign_172 rfl ?_
                  refine z_iadd dX9_assign_173 ?_
                  refine e_iload_n dX9_assign_174 rfl ?_
                  refine e_callS [.ref _, .ref _, .int _, .int _] dX9_assign_175 tm_9_52 rfl (Nat.le_of_ble_eq_true rfl) (Nat.le_refl _) (Nat.le_refl _) rfl (zp_X9_assign_4 k53 k54 H55 H56 H57 A60 H58 s ⟨by omega, by omega⟩ (by omega) pin (by omega) (fun  h61 f62 p63 p64 => ?_))
                  have k65 := lk_q (frm_s f62) k53
                  have k66 := lk_q (frm_s f62) k54
                  have H67 := isF_c f62 (fun a k q1 q2 => by omega) H55
                  have H68 := mgT_c f62 (fun a k q => by omega) H56
                  have H69 := abU_c f62 (fun a k q => by omega) H57
                  have FR70 := frm_t FR59 (frm_m (S' := (fun a k => (a = y ∧ k = 1) ∨ a = y + 1 ∨ a = y + 2 ∨ a = y + 5)) f62 (fun a k q => by omega))
                  skip
                  refine e_vret dX9_assign_178 rfl ⟨rfl, ?_⟩
                  have ZZ : cdZ (setG w 3 6) (3 + 1) + scZ (3 + 1) = cdZ w 3 + scZ 3 := by rw [cd_set (by omega), (sc_s (n := 3) (by omega) (by omega)).1]; omega
                  exact kq _ FR70 (by rw [← ZZ]; exact p63) (asS_q p64 (by omega))
                · skip
                  refine e_aload_n dX9_assign_68 rfl ?_
                  refine e_get (.ref (y + 5)) dX9_assign_69 tf_9_29 (congrArg Prod.fst (wk_s0 k19)) (congrArg va_rf (wk_r0_5 k19)) ?_
                  refine e_iload dX9_assign_72 rfl ?_
                  refine z_ild (rI h18 (y + 5) d) dX9_assign_74 (wk_s5 k19) (by decide) (by omega) (by omega) rfl ?_
                  have y71 := ((H24).1 d (by omega) (by omega)).1
                  refine z_iconst (1) dX9_assign_75 rfl ?_
                  refine e_iload_n dX9_assign_76 rfl ?_
                  refine z_ishl dX9_assign_77 (by omega) (by omega) (by omega) (by omega) ?_
                  have y72 := shlZ_b 1 3
                  refine z_ior dX9_assign_78 (by omega) (by omega) (by omega) (by omega) ?_
                  have y73 := orZ_b (rI h18 (y + 5) d) (shlZ 1 3)
                  refine e_istore (L' := [_, _, _, _, _, _]) dX9_assign_79 (Nat.le_of_ble_eq_true rfl) rfl ?_
                  have hS := asS_h H24 (c := 3) (d := d) (by omega) (by omega)
                  have ob := or_b (k := 3) ((H24).1 d (by omega) (by omega)).1.2 (by omega)
                  have ob : 0 ≤ (orZ (rI h18 (y + 5) d) (shlZ 1 3)) ∧ (orZ (rI h18 (y + 5) d) (shlZ 1 3)) < 64 := ob
                  refine e_aload_n dX9_assign_81 rfl ?_
                  refine e_iload dX9_assign_82 rfl ?_
                  refine e_callV [.int _] dX9_assign_84 tm_9_91 rfl (Nat.le_of_ble_eq_true rfl) (congrArg Prod.fst (fg_s0 k20)) (Nat.le_of_ble_eq_true rfl) (Nat.le_refl _) (Nat.le_refl _) rfl (zp_X2_upOf k20 H21 d ⟨by omega, by omega⟩ ?_)
                  have y74 := upv_s (isF_w H21) d
                  refine z_iconst (-1) dX9_assign_87 rfl ?_
                  refine z_icmp_eq 155 dX9_assign_88 rfl ⟨by omega, by omega⟩ ⟨by omega, by omega⟩ (fun c75 => ?_) (fun c75 => ?_)
                  · skip
                    have nok : ¬ okD g (setG w 3 d) 3 := as_no (by omega) (by omega) (by omega) (by omega) hS (Or.inl (by omega))
                    refine z_iinc (L' := [_, _, _, _, _, _]) dX9_assign_155 rfl rfl ?_
                    refine e_goto 49 dX9_assign_158 rfl ?_
                    exact mEv_wk (by exact ⟨Or.inr rfl, Or.inr rfl, Or.inr rfl, Or.inr rfl, Or.inr rfl, Or.inl rfl, trivial⟩) (ih18 _ (by omega) (d + 1) u h18 rfl k19 k20 H21 H22 H23 H24 FR25 (by omega) (asP_sk (c := 3) (d := d) (by omega) (by omega) (by omega) (by omega) (by omega) pa IF rfl (by rw [Int.add_mul, Int.one_mul]; omega) nok) IB)
                  · skip
                    refine e_aload_n dX9_assign_91 rfl ?_
                    refine e_get (.ref (y + 4)) dX9_assign_92 tf_9_25 (congrArg Prod.fst (wk_s0 k19)) (congrArg va_rf (wk_r0_4 k19)) ?_
                    refine e_iload dX9_assign_95 rfl ?_
                    refine z_bipush (64) dX9_assign_97 rfl ?_
                    refine z_imul dX9_assign_99 ?_
                    refine e_iload dX9_assign_100 rfl ?_
                    refine z_iadd dX9_assign_102 ?_
                    refine z_zld (rI h18 (y + 4) ((d * 64) + (orZ (rI h18 (y + 5) d) (shlZ 1 3)))) dX9_assign_103 (wk_s4 k19) (by decide) (by omega) (by omega) rfl ?_
                    have y76 := mgT_b H22 (d := d) (s := (orZ (rI h18 (y + 5) d) (shlZ 1 3))) (by omega) (by omega) (by omega) (by omega)
                    refine z_if_eq 155 dX9_assign_104 rfl ⟨by omega, by omega⟩ (fun c77 => ?_) (fun c77 => ?_)
                    · skip
                      have nok : ¬ okD g (setG w 3 d) 3 := as_no (by omega) (by omega) (by omega) (by omega) hS (Or.inr (mgT_0 H22 (by omega) (by omega) (by omega) (by omega) (by assumption)))
                      refine z_iinc (L' := [_, _, _, _, _, _]) dX9_assign_155 rfl rfl ?_
                      refine e_goto 49 dX9_assign_158 rfl ?_
                      exact mEv_wk (by exact ⟨Or.inr rfl, Or.inr rfl, Or.inr rfl, Or.inr rfl, Or.inr rfl, Or.inl rfl, trivial⟩) (ih18 _ (by omega) (d + 1) u h18 rfl k19 k20 H21 H22 H23 H24 FR25 (by omega) (asP_sk (c := 3) (d := d) (by omega) (by omega) (by omega) (by omega) (by omega) pa IF rfl (by rw [Int.add_mul, Int.one_mul]; omega) nok) IB)
                    · skip
                      have mgy : mgP g d (orZ (rI h18 (y + 5) d) (shlZ 1 3)) := mgT_1 H22 (by omega) (by omega) (by omega) (by omega) (by assumption)
                      refine e_aload_n dX9_assign_107 rfl ?_
                      refine e_get (.ref (y + 5)) dX9_assign_108 tf_9_29 (congrArg Prod.fst (wk_s0 k19)) (congrArg va_rf (wk_r0_5 k19)) ?_
                      refine e_iload dX9_assign_111 rfl ?_
                      refine e_iload dX9_assign_113 rfl ?_
                      refine z_ist dX9_assign_115 (wk_s5 k19) (by decide) (by omega) (by omega) (fun h78 e79 => ?_)
                      have f80 := frm_1 e79
                      have k81 := lk_q (frm_s f80) k19
                      have k82 := lk_q (frm_s f80) k20
                      have H83 := isF_c f80 (fun a k q1 q2 => by omega) H21
                      have H84 := mgT_c f80 (fun a k q => by omega) H22
                      have H85 := abU_c f80 (fun a k q => by omega) H23
                      have H86 := bsS_c f80 (fun a k q => by omega) IB
                      have FR87 := frm_t FR25 (frm_m (S' := (fun a k => (a = y ∧ k = 1) ∨ a = y + 1 ∨ a = y + 2 ∨ a = y + 5)) f80 (fun a k q => by omega))
                      refine e_aload_n dX9_assign_116 rfl ?_
                      refine e_get (.ref (y + 2)) dX9_assign_117 tf_9_19 (congrArg Prod.fst (wk_s0 k81)) (congrArg va_rf (wk_r0_2 k81)) ?_
                      refine e_iload_n dX9_assign_120 rfl ?_
                      refine e_iload dX9_assign_121 rfl ?_
                      refine z_ist dX9_assign_123 (wk_s2 k81) (by decide) (by omega) (by omega) (fun h88 e89 => ?_)
                      have f90 := frm_1 e89
                      have k91 := lk_q (frm_s f90) k81
                      have k92 := lk_q (frm_s f90) k82
                      have H93 := isF_c f90 (fun a k q1 q2 => by omega) H83
                      have H94 := mgT_c f90 (fun a k q => by omega) H84
                      have H95 := abU_c f90 (fun a k q => by omega) H85
                      have H96 := bsS_c f90 (fun a k q => by omega) H86
                      have FR97 := frm_t FR87 (frm_m (S' := (fun a k => (a = y ∧ k = 1) ∨ a = y + 1 ∨ a = y + 2 ∨ a = y + 5)) f90 (fun a k q => by omega))
                      have A98 : asS h88 y (setG w 3 d) (3 + 1) := asS_y H24 (by omega) (by omega) (by omega) rfl (by exact ((frm_r f90 (by omega)).trans (rI_eq e79 ⟨by omega, by omega⟩))) (fun e a b n => ((frm_r f90 (by omega)).trans (frm_r f80 (by omega)))) (by exact (rI_eq e89 ⟨by omega, by omega⟩)) (fun e a b => ((frm_r f90 (by omega)).trans (frm_r f80 (by omega))))
                      have oky : okD g (setG w 3 d) 3 := as_ok (by omega) (by omega) (by omega) (by omega) (by omega) hS mgy
                      have pin := asP_in (c := 3) (d := d) (by omega) pa IF rfl oky (s + pr g 3) (by rw [if_pos (by omega)])
                      refine e_aload_n dX9_assign_124 rfl ?_
                      refine e_aload_n dX9_assign_125 rfl ?_
                      refine e_iload_n dX9_assign_126 rfl ?_
                      refine z_iconst (1) dX9_assign_127 rfl ?_
                      refine z_iadd dX9_assign_128 ?_
                      refine e_iload_n dX9_assign_129 rfl ?_
                      refine e_aload_n dX9_assign_130 rfl ?_
                      refine e_get (.ref (f + 14)) dX9_assign_131 tf_9_75 (congrArg Prod.fst (fg_s0 k92)) (congrArg va_rf (fg_r0_3 k92)) ?_
                      refine e_iload_n dX9_assign_134 rfl ?_
                      refine z_ild (pr g 3) dX9_assign_135 (fg_s14 k92) (by decide) (by omega) (by omega) (isF_pr H93 (by omega) (by omega)) ?_
                      have y99 := wC_c (isF_w H93).2.2 (show 0 ≤ 3 by omega) (by omega)
                      refine z_iadd dX9_assign_136 ?_
                      refine e_callS [.ref _, .ref _, .int _, .int _] dX9_assign_137 tm_9_52 rfl (Nat.le_of_ble_eq_true rfl) (Nat.le_refl _) (Nat.le_refl _) rfl (zp_X9_assign_4 k91 k92 H93 H94 H95 A98 H96 (s + (pr g 3)) ⟨by omega, by omega⟩ (by omega) pin (by omega) (fun  h100 f101 p102 p103 => ?_))
                      have k104 := lk_q (frm_s f101) k91
                      have k105 := lk_q (frm_s f101) k92
                      have H106 := isF_c f101 (fun a k q1 q2 => by omega) H93
                      have H107 := mgT_c f101 (fun a k q => by omega) H94
                      have H108 := abU_c f101 (fun a k q => by omega) H95
                      have FR109 := frm_t FR97 (frm_m (S' := (fun a k => (a = y ∧ k = 1) ∨ a = y + 1 ∨ a = y + 2 ∨ a = y + 5)) f101 (fun a k q => by omega))
                      obtain ⟨u2, F2, B2⟩ := p102
                      refine e_aload_n dX9_assign_140 rfl ?_
                      refine e_get (.ref (y + 5)) dX9_assign_141 tf_9_29 (congrArg Prod.fst (wk_s0 k104)) (congrArg va_rf (wk_r0_5 k104)) ?_
                      refine e_iload dX9_assign_144 rfl ?_
                      refine e_iload dX9_assign_146 rfl ?_
                      refine z_iconst (1) dX9_assign_148 rfl ?_
                      refine e_iload_n dX9_assign_149 rfl ?_
                      refine z_ishl dX9_assign_150 (by omega) (by omega) (by omega) (by omega) ?_
                      have y110 := shlZ_b 1 3
                      refine z_iconst (-1) dX9_assign_151 rfl ?_
                      refine z_inot dX9_assign_152 (by omega) ?_
                      refine z_iandn dX9_assign_153 (by omega) (by omega) ?_
                      have y111 := subS_b (orZ (rI h18 (y + 5) d) (shlZ 1 3)) (shlZ 1 3)
                      refine z_ist dX9_assign_154 (wk_s5 k104) (by decide) (by omega) (by omega) (fun h112 e113 => ?_)
                      have f114 := frm_1 e113
                      have k115 := lk_q (frm_s f114) k104
                      have k116 := lk_q (frm_s f114) k105
                      have H117 := isF_c f114 (fun a k q1 q2 => by omega) H106
                      have H118 := mgT_c f114 (fun a k q => by omega) H107
                      have H119 := abU_c f114 (fun a k q => by omega) H108
                      have FR120 := frm_t FR109 (frm_m (S' := (fun a k => (a = y ∧ k = 1) ∨ a = y + 1 ∨ a = y + 2 ∨ a = y + 5)) f114 (fun a k q => by omega))
                      have A121 : asS h112 y w 3 := asS_z p103 (by omega) (by omega) (by omega) hS ob (by exact (rI_eq e113 ⟨by omega, by omega⟩)) (fun e a b n => (frm_r f114 (by omega))) (fun e a b => (frm_r f114 (by omega)))
                      have B122 := bsS_c f114 (fun a k q => by omega) B2
                      refine z_iinc (L' := [_, _, _, _, _, _]) dX9_assign_155 rfl rfl ?_
                      refine e_goto 49 dX9_assign_158 rfl ?_
                      exact mEv_wk (by exact ⟨Or.inr rfl, Or.inr rfl, Or.inr rfl, Or.inr rfl, Or.inr rfl, Or.inl rfl, trivial⟩) (ih18 _ (by omega) (d + 1) u2 h112 rfl k115 k116 H117 H118 H119 A121 FR120 (by omega) (by have zz : cdZ (setG w 3 d) (3 + 1) + scZ (3 + 1) = cdZ w 3 + (d + 1) * scZ (3 + 1) := (by rw [cd_set (by omega), Int.add_mul, Int.one_mul]; omega); rw [← zz]; exact F2) B122)
            exact lp18 _ 0 v h rfl hk hk1 HF HT HU HA FR0 (by omega) (by rw [Int.zero_mul, Int.add_zero]; exact pa.2.2) HV
          · exfalso; omega
      · skip
        skip
        refine e_vret dX9_assign_25 rfl ⟨rfl, ?_⟩
        exact kq _ FR0 (asP_prune wf (by omega) pn pa HU HV (by omega)) HA
set_option maxHeartbeats 4000000 in
theorem zp_X9_assign_2 {ad : mA} {dd : Nat} {h : mH} {Q : mQ} {y f : Nat} {g w : Int → Int} {v : Int} (hk : wkk h y) (hk1 : fgk h f) (HF : isF h f g) (HT : mgT h y g) (HU : abU h y g) (HA : asS h y w 2) (HV : bsS h y g v)  (s : Int) (s_r : -2147483648 ≤ s ∧ s < 2147483648) (pn : (2 : Int) ≤ nc g) (pa : asP g w 2 s v) (pf : y + 7 ≤ f ∨ f + 16 ≤ y) (kq : ∀ h1, frm (fun a k => (a = y ∧ k = 1) ∨ a = y + 1 ∨ a = y + 2 ∨ a = y + 5) h h1 → (asE h1 y g (cdZ w 2 + scZ 2)) → (asS h1 y w 2) → Q none h1) : mCal TB0 ad (dd + 7) M_X9_assign [.ref y, .ref f, .int (zI 2), .int (zI s)] h 0 0 Q := by
  refine ⟨Nat.le_of_ble_eq_true rfl, ?_⟩
  show mEv TB0 ad M_X9_assign (dd + 7) (0, 0) (mCal TB0 ad (dd + 6)) (fun v h' z => z.1 = 0 ∧ Q v h') 0 [some (.ref y), some (.ref f), some (.int (zI 2)), some (.int (zI s)), none, none] [] h (0, 0)
  have FR0 : frm (fun a k => (a = y ∧ k = 1) ∨ a = y + 1 ∨ a = y + 2 ∨ a = y + 5) h h := frm_0 h
  have w1 := isF_n HF
  have w2 := isF_nd HF
  have w3 := isF_nu HF
  have w4 := isF_nc HF
  have W := isF_w HF
  have wf := isF_w HF
  have sb := asP_b W.2.2 (by omega) pn pa
  have ub := abU_b HU (c := 2) (by omega) (by omega)
  have bb := bsS_b W.2.2 HV
  refine e_iload_n dX9_assign_0 rfl ?_
  refine z_if_lt 25 dX9_assign_1 rfl ⟨by omega, by omega⟩ (fun c1 => ?_) (fun c1 => ?_)
  · exfalso; omega
  · skip
    refine e_iload_n dX9_assign_4 rfl ?_
    refine z_bipush (6) dX9_assign_5 rfl ?_
    refine z_icmp_gt 25 dX9_assign_7 rfl ⟨by omega, by omega⟩ ⟨by omega, by omega⟩ (fun c2 => ?_) (fun c2 => ?_)
    · exfalso; omega
    · skip
      refine e_iload_n dX9_assign_10 rfl ?_
      refine e_aload_n dX9_assign_11 rfl ?_
      refine e_get (.ref (y + 6)) dX9_assign_12 tf_9_32 (congrArg Prod.fst (wk_s0 hk)) (congrArg va_rf (wk_r0_6 hk)) ?_
      refine e_iload_n dX9_assign_15 rfl ?_
      refine z_ild (rI h (y + 6) 2) dX9_assign_16 (wk_s6 hk) (by decide) (by omega) (by omega) rfl ?_
      refine z_iadd dX9_assign_17 ?_
      refine e_aload_n dX9_assign_18 rfl ?_
      refine z_get (rI h y 1) dX9_assign_19 tf_9_15 (congrArg Prod.fst (wk_s0 hk)) (Or.inl rfl) rfl ?_
      refine z_icmp_gt 26 dX9_assign_22 rfl ⟨by omega, by omega⟩ ⟨by omega, by omega⟩ (fun c3 => ?_) (fun c3 => ?_)
      · skip
        refine e_iload_n dX9_assign_26 rfl ?_
        refine e_aload_n dX9_assign_27 rfl ?_
        refine z_get (nc g) dX9_assign_28 tf_9_56 (congrArg Prod.fst (fg_s0 hk1)) (Or.inl rfl) (isF_nc HF) ?_
        have y4 := isF_n HF
        refine z_icmp_ge 40 dX9_assign_31 rfl ⟨by omega, by omega⟩ ⟨by omega, by omega⟩ (fun c5 => ?_) (fun c5 => ?_)
        · skip
          skip
          refine e_aload_n dX9_assign_40 rfl ?_
          refine e_iload_n dX9_assign_41 rfl ?_
          refine e_callV [.int _] dX9_assign_42 tm_9_78 rfl (Nat.le_of_ble_eq_true rfl) (congrArg Prod.fst (wk_s0 hk)) (Nat.le_of_ble_eq_true rfl) (Nat.le_refl _) (Nat.le_refl _) rfl (zp_X9_keepRow hk s ⟨by omega, by omega⟩ (fun  h6 f7 p8 p9 => ?_))
          have k10 := lk_q (frm_s f7) hk
          have k11 := lk_q (frm_s f7) hk1
          have H12 := isF_c f7 (fun a k q1 q2 => by omega) HF
          have H13 := mgT_c f7 (fun a k q => by omega) HT
          have H14 := abU_c f7 (fun a k q => by omega) HU
          have H15 := asS_c f7 (fun a k q => by omega) HA
          have FR16 := frm_t FR0 (frm_m (S' := (fun a k => (a = y ∧ k = 1) ∨ a = y + 1 ∨ a = y + 2 ∨ a = y + 5)) f7 (fun a k q => by omega))
          skip
          refine e_vret dX9_assign_45 rfl ⟨rfl, ?_⟩
          exact kq _ FR16 (asP_leaf wf (by omega) (by omega) pa HU HV HA (by omega) p8 p9) H15
        · skip
          skip
          refine e_iload_n dX9_assign_34 rfl ?_
          refine z_bipush (6) dX9_assign_35 rfl ?_
          refine z_icmp_lt 46 dX9_assign_37 rfl ⟨by omega, by omega⟩ ⟨by omega, by omega⟩ (fun c17 => ?_) (fun c17 => ?_)
          · skip
            refine z_iconst (0) dX9_assign_46 rfl ?_
            refine e_istore (L' := [_, _, _, _, _, _]) dX9_assign_47 (Nat.le_of_ble_eq_true rfl) rfl ?_
            have lp18 : ∀ (n18 : Nat) (d u : Int) (h18 : mH), (nd g - d).toNat = n18 → (wkk h18 y) → (fgk h18 f) → (isF h18 f g) → (mgT h18 y g) → (abU h18 y g) → (asS h18 y w 2) → (frm (fun a k => (a = y ∧ k = 1) ∨ a = y + 1 ∨ a = y + 2 ∨ a = y + 5) h h18) → (0 ≤ d ∧ d ≤ nd g) → (fmax (vaW g) (suW g) (cdZ w 2 + d * scZ (2 + 1)) u) → (bsS h18 y g u) → mEv TB0 ad M_X9_assign (dd + 7) (0, 0) (mCal TB0 ad (dd + 6)) (fun v h' z => z.1 = 0 ∧ Q v h') 49 [some (.ref y), some (.ref f), some (.int (zI 2)), some (.int (zI s)), some (.int (zI d)), none] [] h18 (0, 0) := by
              intro n18
              induction n18 using Nat.strongRecOn with
              | ind n18 ih18 =>
              intro d u h18 hn18 k19 k20 H21 H22 H23 H24 FR25 I1 IF IB
              refine e_iload dX9_assign_49 rfl ?_
              have ib := bsS_b W.2.2 IB
              refine e_aload_n dX9_assign_51 rfl ?_
              refine e_get (.ref (f + 1)) dX9_assign_52 tf_9_82 (congrArg Prod.fst (fg_s0 k20)) (congrArg va_rf (fg_r0_0 k20)) ?_
              refine z_get (nd g) dX9_assign_55 tf_9_86 (congrArg Prod.fst (fg_s1 k20)) (Or.inl rfl) (isF_nd H21) ?_
              have y26 := isF_n H21
              refine z_icmp_ge 161 dX9_assign_58 rfl ⟨by omega, by omega⟩ ⟨by omega, by omega⟩ (fun c27 => ?_) (fun c27 => ?_)
              · skip
                have I6 := asP_hi (c := 2) (by omega) (by omega) (by omega) (by omega) pa (6 - d).toNat d (by omega) (by omega) IF
                refine e_aload_n dX9_assign_161 rfl ?_
                refine e_get (.ref (y + 2)) dX9_assign_162 tf_9_19 (congrArg Prod.fst (wk_s0 k19)) (congrArg va_rf (wk_r0_2 k19)) ?_
                refine e_iload_n dX9_assign_165 rfl ?_
                refine z_bipush (6) dX9_assign_166 rfl ?_
                refine z_ist dX9_assign_168 (wk_s2 k19) (by decide) (by omega) (by omega) (fun h28 e29 => ?_)
                have f30 := frm_1 e29
                have k31 := lk_q (frm_s f30) k19
                have k32 := lk_q (frm_s f30) k20
                have H33 := isF_c f30 (fun a k q1 q2 => by omega) H21
                have H34 := mgT_c f30 (fun a k q => by omega) H22
                have H35 := abU_c f30 (fun a k q => by omega) H23
                have H36 := bsS_c f30 (fun a k q => by omega) IB
                have FR37 := frm_t FR25 (frm_m (S' := (fun a k => (a = y ∧ k = 1) ∨ a = y + 1 ∨ a = y + 2 ∨ a = y + 5)) f30 (fun a k q => by omega))
                have A38 : asS h28 y (setG w 2 6) (2 + 1) := asS_6 H24 (by omega) (fun e a b => (frm_r f30 (by omega))) (by exact (rI_eq e29 ⟨by omega, by omega⟩)) (fun e a b => (frm_r f30 (by omega)))
                have pin := asP_in (c := 2) (d := 6) (by omega) pa I6 rfl (Or.inl (if_pos rfl)) s (by rw [if_neg (by omega)]; omega)
                refine e_aload_n dX9_assign_169 rfl ?_
                refine e_aload_n dX9_assign_170 rfl ?_
                refine e_iload_n dX9_assign_171 rfl ?_
                refine z_iconst (1) dX9_assign_172 rfl ?_
                refine z_iadd dX9_assign_173 ?_
                refine e_iload_n dX9_assign_174 rfl ?_
                refine e_callS [.ref _, .ref _, .int _, .int _] dX9_assign_175 tm_9_52 rfl (Nat.le_of_ble_eq_true rfl) (Nat.le_refl _) (Nat.le_refl _) rfl (zp_X9_assign_3 k31 k32 H33 H34 H35 A38 H36 s ⟨by omega, by omega⟩ (by omega) pin (by omega) (fun  h39 f40 p41 p42 => ?_))
                have k43 := lk_q (frm_s f40) k31
                have k44 := lk_q (frm_s f40) k32
                have H45 := isF_c f40 (fun a k q1 q2 => by omega) H33
                have H46 := mgT_c f40 (fun a k q => by omega) H34
                have H47 := abU_c f40 (fun a k q => by omega) H35
                have FR48 := frm_t FR37 (frm_m (S' := (fun a k => (a = y ∧ k = 1) ∨ a = y + 1 ∨ a = y + 2 ∨ a = y + 5)) f40 (fun a k q => by omega))
                skip
                refine e_vret dX9_assign_178 rfl ⟨rfl, ?_⟩
                have ZZ : cdZ (setG w 2 6) (2 + 1) + scZ (2 + 1) = cdZ w 2 + scZ 2 := by rw [cd_set (by omega), (sc_s (n := 2) (by omega) (by omega)).1]; omega
                exact kq _ FR48 (by rw [← ZZ]; exact p41) (asS_q p42 (by omega))
              · skip
                refine e_iload dX9_assign_61 rfl ?_
                refine z_bipush (6) dX9_assign_63 rfl ?_
                refine z_icmp_ge 161 dX9_assign_65 rfl ⟨by omega, by omega⟩ ⟨by omega, by omega⟩ (fun c49 => ?_) (fun c49 => ?_)
                · skip
                  have I6 := asP_hi (c := 2) (by omega) (by omega) (by omega) (by omega) pa (6 - d).toNat d (by omega) (by omega) IF
                  refine e_aload_n dX9_assign_161 rfl ?_
                  refine e_get (.ref (y + 2)) dX9_assign_162 tf_9_19 (congrArg Prod.fst (wk_s0 k19)) (congrArg va_rf (wk_r0_2 k19)) ?_
                  refine e_iload_n dX9_assign_165 rfl ?_
                  refine z_bipush (6) dX9_assign_166 rfl ?_
                  refine z_ist dX9_assign_168 (wk_s2 k19) (by decide) (by omega) (by omega) (fun h50 e51 => ?_)
                  have f52 := frm_1 e51
                  have k53 := lk_q (frm_s f52) k19
                  have k54 := lk_q (frm_s f52) k20
                  have H55 := isF_c f52 (fun a k q1 q2 => by omega) H21
                  have H56 := mgT_c f52 (fun a k q => by omega) H22
                  have H57 := abU_c f52 (fun a k q => by omega) H23
                  have H58 := bsS_c f52 (fun a k q => by omega) IB
                  have FR59 := frm_t FR25 (frm_m (S' := (fun a k => (a = y ∧ k = 1) ∨ a = y + 1 ∨ a = y + 2 ∨ a = y + 5)) f52 (fun a k q => by omega))
                  have A60 : asS h50 y (setG w 2 6) (2 + 1) := asS_6 H24 (by omega) (fun e a b => (frm_r f52 (by omega))) (by exact (rI_eq e51 ⟨by omega, by omega⟩)) (fun e a b => (frm_r f52 (by omega)))
                  have pin := asP_in (c := 2) (d := 6) (by omega) pa I6 rfl (Or.inl (if_pos rfl)) s (by rw [if_neg (by omega)]; omega)
                  refine e_aload_n dX9_assign_169 rfl ?_
                  refine e_aload_n dX9_assign_170 rfl ?_
                  refine e_iload_n dX9_assign_171 rfl ?_
                  refine z_iconst (1) dX9_assign_172 rfl ?_
                  refine z_iadd dX9_assign_173 ?_
                  refine e_iload_n dX9_assign_174 rfl ?_
                  refine e_callS [.ref _, .ref _, .int _, .int _] dX9_assign_175 tm_9_52 rfl (Nat.le_of_ble_eq_true rfl) (Nat.le_refl _) (Nat.le_refl _) rfl (zp_X9_assign_3 k53 k54 H55 H56 H57 A60 H58 s ⟨by omega, by omega⟩ (by omega) pin (by omega) (fun  h61 f62 p63 p64 => ?_))
                  have k65 := lk_q (frm_s f62) k53
                  have k66 := lk_q (frm_s f62) k54
                  have H67 := isF_c f62 (fun a k q1 q2 => by omega) H55
                  have H68 := mgT_c f62 (fun a k q => by omega) H56
                  have H69 := abU_c f62 (fun a k q => by omega) H57
                  have FR70 := frm_t FR59 (frm_m (S' := (fun a k => (a = y ∧ k = 1) ∨ a = y + 1 ∨ a = y + 2 ∨ a = y + 5)) f62 (fun a k q => by omega))
                  skip
                  refine e_vret dX9_assign_178 rfl ⟨rfl, ?_⟩
                  have ZZ : cdZ (setG w 2 6) (2 + 1) + scZ (2 + 1) = cdZ w 2 + scZ 2 := by rw [cd_set (by omega), (sc_s (n := 2) (by omega) (by omega)).1]; omega
                  exact kq _ FR70 (by rw [← ZZ]; exact p63) (asS_q p64 (by omega))
                · skip
                  refine e_aload_n dX9_assign_68 rfl ?_
                  refine e_get (.ref (y + 5)) dX9_assign_69 tf_9_29 (congrArg Prod.fst (wk_s0 k19)) (congrArg va_rf (wk_r0_5 k19)) ?_
                  refine e_iload dX9_assign_72 rfl ?_
                  refine z_ild (rI h18 (y + 5) d) dX9_assign_74 (wk_s5 k19) (by decide) (by omega) (by omega) rfl ?_
                  have y71 := ((H24).1 d (by omega) (by omega)).1
                  refine z_iconst (1) dX9_assign_75 rfl ?_
                  refine e_iload_n dX9_assign_76 rfl ?_
                  refine z_ishl dX9_assign_77 (by omega) (by omega) (by omega) (by omega) ?_
                  have y72 := shlZ_b 1 2
                  refine z_ior dX9_assign_78 (by omega) (by omega) (by omega) (by omega) ?_
                  have y73 := orZ_b (rI h18 (y + 5) d) (shlZ 1 2)
                  refine e_istore (L' := [_, _, _, _, _, _]) dX9_assign_79 (Nat.le_of_ble_eq_true rfl) rfl ?_
                  have hS := asS_h H24 (c := 2) (d := d) (by omega) (by omega)
                  have ob := or_b (k := 2) ((H24).1 d (by omega) (by omega)).1.2 (by omega)
                  have ob : 0 ≤ (orZ (rI h18 (y + 5) d) (shlZ 1 2)) ∧ (orZ (rI h18 (y + 5) d) (shlZ 1 2)) < 64 := ob
                  refine e_aload_n dX9_assign_81 rfl ?_
                  refine e_iload dX9_assign_82 rfl ?_
                  refine e_callV [.int _] dX9_assign_84 tm_9_91 rfl (Nat.le_of_ble_eq_true rfl) (congrArg Prod.fst (fg_s0 k20)) (Nat.le_of_ble_eq_true rfl) (Nat.le_refl _) (Nat.le_refl _) rfl (zp_X2_upOf k20 H21 d ⟨by omega, by omega⟩ ?_)
                  have y74 := upv_s (isF_w H21) d
                  refine z_iconst (-1) dX9_assign_87 rfl ?_
                  refine z_icmp_eq 155 dX9_assign_88 rfl ⟨by omega, by omega⟩ ⟨by omega, by omega⟩ (fun c75 => ?_) (fun c75 => ?_)
                  · skip
                    have nok : ¬ okD g (setG w 2 d) 2 := as_no (by omega) (by omega) (by omega) (by omega) hS (Or.inl (by omega))
                    refine z_iinc (L' := [_, _, _, _, _, _]) dX9_assign_155 rfl rfl ?_
                    refine e_goto 49 dX9_assign_158 rfl ?_
                    exact mEv_wk (by exact ⟨Or.inr rfl, Or.inr rfl, Or.inr rfl, Or.inr rfl, Or.inr rfl, Or.inl rfl, trivial⟩) (ih18 _ (by omega) (d + 1) u h18 rfl k19 k20 H21 H22 H23 H24 FR25 (by omega) (asP_sk (c := 2) (d := d) (by omega) (by omega) (by omega) (by omega) (by omega) pa IF rfl (by rw [Int.add_mul, Int.one_mul]; omega) nok) IB)
                  · skip
                    refine e_aload_n dX9_assign_91 rfl ?_
                    refine e_get (.ref (y + 4)) dX9_assign_92 tf_9_25 (congrArg Prod.fst (wk_s0 k19)) (congrArg va_rf (wk_r0_4 k19)) ?_
                    refine e_iload dX9_assign_95 rfl ?_
                    refine z_bipush (64) dX9_assign_97 rfl ?_
                    refine z_imul dX9_assign_99 ?_
                    refine e_iload dX9_assign_100 rfl ?_
                    refine z_iadd dX9_assign_102 ?_
                    refine z_zld (rI h18 (y + 4) ((d * 64) + (orZ (rI h18 (y + 5) d) (shlZ 1 2)))) dX9_assign_103 (wk_s4 k19) (by decide) (by omega) (by omega) rfl ?_
                    have y76 := mgT_b H22 (d := d) (s := (orZ (rI h18 (y + 5) d) (shlZ 1 2))) (by omega) (by omega) (by omega) (by omega)
                    refine z_if_eq 155 dX9_assign_104 rfl ⟨by omega, by omega⟩ (fun c77 => ?_) (fun c77 => ?_)
                    · skip
                      have nok : ¬ okD g (setG w 2 d) 2 := as_no (by omega) (by omega) (by omega) (by omega) hS (Or.inr (mgT_0 H22 (by omega) (by omega) (by omega) (by omega) (by assumption)))
                      refine z_iinc (L' := [_, _, _, _, _, _]) dX9_assign_155 rfl rfl ?_
                      refine e_goto 49 dX9_assign_158 rfl ?_
                      exact mEv_wk (by exact ⟨Or.inr rfl, Or.inr rfl, Or.inr rfl, Or.inr rfl, Or.inr rfl, Or.inl rfl, trivial⟩) (ih18 _ (by omega) (d + 1) u h18 rfl k19 k20 H21 H22 H23 H24 FR25 (by omega) (asP_sk (c := 2) (d := d) (by omega) (by omega) (by omega) (by omega) (by omega) pa IF rfl (by rw [Int.add_mul, Int.one_mul]; omega) nok) IB)
                    · skip
                      have mgy : mgP g d (orZ (rI h18 (y + 5) d) (shlZ 1 2)) := mgT_1 H22 (by omega) (by omega) (by omega) (by omega) (by assumption)
                      refine e_aload_n dX9_assign_107 rfl ?_
                      refine e_get (.ref (y + 5)) dX9_assign_108 tf_9_29 (congrArg Prod.fst (wk_s0 k19)) (congrArg va_rf (wk_r0_5 k19)) ?_
                      refine e_iload dX9_assign_111 rfl ?_
                      refine e_iload dX9_assign_113 rfl ?_
                      refine z_ist dX9_assign_115 (wk_s5 k19) (by decide) (by omega) (by omega) (fun h78 e79 => ?_)
                      have f80 := frm_1 e79
                      have k81 := lk_q (frm_s f80) k19
                      have k82 := lk_q (frm_s f80) k20
                      have H83 := isF_c f80 (fun a k q1 q2 => by omega) H21
                      have H84 := mgT_c f80 (fun a k q => by omega) H22
                      have H85 := abU_c f80 (fun a k q => by omega) H23
                      have H86 := bsS_c f80 (fun a k q => by omega) IB
                      have FR87 := frm_t FR25 (frm_m (S' := (fun a k => (a = y ∧ k = 1) ∨ a = y + 1 ∨ a = y + 2 ∨ a = y + 5)) f80 (fun a k q => by omega))
                      refine e_aload_n dX9_assign_116 rfl ?_
                      refine e_get (.ref (y + 2)) dX9_assign_117 tf_9_19 (congrArg Prod.fst (wk_s0 k81)) (congrArg va_rf (wk_r0_2 k81)) ?_
                      refine e_iload_n dX9_assign_120 rfl ?_
                      refine e_iload dX9_assign_121 rfl ?_
                      refine z_ist dX9_assign_123 (wk_s2 k81) (by decide) (by omega) (by omega) (fun h88 e89 => ?_)
                      have f90 := frm_1 e89
                      have k91 := lk_q (frm_s f90) k81
                      have k92 := lk_q (frm_s f90) k82
                      have H93 := isF_c f90 (fun a k q1 q2 => by omega) H83
                      have H94 := mgT_c f90 (fun a k q => by omega) H84
                      have H95 := abU_c f90 (fun a k q => by omega) H85
                      have H96 := bsS_c f90 (fun a k q => by omega) H86
                      have FR97 := frm_t FR87 (frm_m (S' := (fun a k => (a = y ∧ k = 1) ∨ a = y + 1 ∨ a = y + 2 ∨ a = y + 5)) f90 (fun a k q => by omega))
                      have A98 : asS h88 y (setG w 2 d) (2 + 1) := asS_y H24 (by omega) (by omega) (by omega) rfl (by exact ((frm_r f90 (by omega)).trans (rI_eq e79 ⟨by omega, by omega⟩))) (fun e a b n => ((frm_r f90 (by omega)).trans (frm_r f80 (by omega)))) (by exact (rI_eq e89 ⟨by omega, by omega⟩)) (fun e a b => ((frm_r f90 (by omega)).trans (frm_r f80 (by omega))))
                      have oky : okD g (setG w 2 d) 2 := as_ok (by omega) (by omega) (by omega) (by omega) (by omega) hS mgy
                      have pin := asP_in (c := 2) (d := d) (by omega) pa IF rfl oky (s + pr g 2) (by rw [if_pos (by omega)])
                      refine e_aload_n dX9_assign_124 rfl ?_
                      refine e_aload_n dX9_assign_125 rfl ?_
                      refine e_iload_n dX9_assign_126 rfl ?_
                      refine z_iconst (1) dX9_assign_127 rfl ?_
                      refine z_iadd dX9_assign_128 ?_
                      refine e_iload_n dX9_assign_129 rfl ?_
                      refine e_aload_n dX9_assign_130 rfl ?_
                      refine e_get (.ref (f + 14)) dX9_assign_131 tf_9_75 (congrArg Prod.fst (fg_s0 k92)) (congrArg va_rf (fg_r0_3 k92)) ?_
                      refine e_iload_n dX9_assign_134 rfl ?_
                      refine z_ild (pr g 2) dX9_assign_135 (fg_s14 k92) (by decide) (by omega) (by omega) (isF_pr H93 (by omega) (by omega)) ?_
                      have y99 := wC_c (isF_w H93).2.2 (show 0 ≤ 2 by omega) (by omega)
                      refine z_iadd dX9_assign_136 ?_
                      refine e_callS [.ref _, .ref _, .int _, .int _] dX9_assign_137 tm_9_52 rfl (Nat.le_of_ble_eq_true rfl) (Nat.le_refl _) (Nat.le_refl _) rfl (zp_X9_assign_3 k91 k92 H93 H94 H95 A98 H96 (s + (pr g 2)) ⟨by omega, by omega⟩ (by omega) pin (by omega) (fun  h100 f101 p102 p103 => ?_))
                      have k104 := lk_q (frm_s f101) k91
                      have k105 := lk_q (frm_s f101) k92
                      have H106 := isF_c f101 (fun a k q1 q2 => by omega) H93
                      have H107 := mgT_c f101 (fun a k q => by omega) H94
                      have H108 := abU_c f101 (fun a k q => by omega) H95
                      have FR109 := frm_t FR97 (frm_m (S' := (fun a k => (a = y ∧ k = 1) ∨ a = y + 1 ∨ a = y + 2 ∨ a = y + 5)) f101 (fun a k q => by omega))
                      obtain ⟨u2, F2, B2⟩ := p102
                      refine e_aload_n dX9_assign_140 rfl ?_
                      refine e_get (.ref (y + 5)) dX9_assign_141 tf_9_29 (congrArg Prod.fst (wk_s0 k104)) (congrArg va_rf (wk_r0_5 k104)) ?_
                      refine e_iload dX9_assign_144 rfl ?_
                      refine e_iload dX9_assign_146 rfl ?_
                      refine z_iconst (1) dX9_assign_148 rfl ?_
                      refine e_iload_n dX9_assign_149 rfl ?_
                      refine z_ishl dX9_assign_150 (by omega) (by omega) (by omega) (by omega) ?_
                      have y110 := shlZ_b 1 2
                      refine z_iconst (-1) dX9_assign_151 rfl ?_
                      refine z_inot dX9_assign_152 (by omega) ?_
                      refine z_iandn dX9_assign_153 (by omega) (by omega) ?_
                      have y111 := subS_b (orZ (rI h18 (y + 5) d) (shlZ 1 2)) (shlZ 1 2)
                      refine z_ist dX9_assign_154 (wk_s5 k104) (by decide) (by omega) (by omega) (fun h112 e113 => ?_)
                      have f114 := frm_1 e113
                      have k115 := lk_q (frm_s f114) k104
                      have k116 := lk_q (frm_s f114) k105
                      have H117 := isF_c f114 (fun a k q1 q2 => by omega) H106
                      have H118 := mgT_c f114 (fun a k q => by omega) H107
                      have H119 := abU_c f114 (fun a k q => by omega) H108
                      have FR120 := frm_t FR109 (frm_m (S' := (fun a k => (a = y ∧ k = 1) ∨ a = y + 1 ∨ a = y + 2 ∨ a = y + 5)) f114 (fun a k q => by omega))
                      have A121 : asS h112 y w 2 := asS_z p103 (by omega) (by omega) (by omega) hS ob (by exact (rI_eq e113 ⟨by omega, by omega⟩)) (fun e a b n => (frm_r f114 (by omega))) (fun e a b => (frm_r f114 (by omega)))
                      have B122 := bsS_c f114 (fun a k q => by omega) B2
                      refine z_iinc (L' := [_, _, _, _, _, _]) dX9_assign_155 rfl rfl ?_
                      refine e_goto 49 dX9_assign_158 rfl ?_
                      exact mEv_wk (by exact ⟨Or.inr rfl, Or.inr rfl, Or.inr rfl, Or.inr rfl, Or.inr rfl, Or.inl rfl, trivial⟩) (ih18 _ (by omega) (d + 1) u2 h112 rfl k115 k116 H117 H118 H119 A121 FR120 (by omega) (by have zz : cdZ (setG w 2 d) (2 + 1) + scZ (2 + 1) = cdZ w 2 + (d + 1) * scZ (2 + 1) := (by rw [cd_set (by omega), Int.add_mul, Int.one_mul]; omega); rw [← zz]; exact F2) B122)
            exact lp18 _ 0 v h rfl hk hk1 HF HT HU HA FR0 (by omega) (by rw [Int.zero_mul, Int.add_zero]; exact pa.2.2) HV
          · exfalso; omega
      · skip
        skip
        refine e_vret dX9_assign_25 rfl ⟨rfl, ?_⟩
        exact kq _ FR0 (asP_prune wf (by omega) pn pa HU HV (by omega)) HA
set_option maxHeartbeats 4000000 in
theorem zp_X9_assign_1 {ad : mA} {dd : Nat} {h : mH} {Q : mQ} {y f : Nat} {g w : Int → Int} {v : Int} (hk : wkk h y) (hk1 : fgk h f) (HF : isF h f g) (HT : mgT h y g) (HU : abU h y g) (HA : asS h y w 1) (HV : bsS h y g v)  (s : Int) (s_r : -2147483648 ≤ s ∧ s < 2147483648) (pn : (1 : Int) ≤ nc g) (pa : asP g w 1 s v) (pf : y + 7 ≤ f ∨ f + 16 ≤ y) (kq : ∀ h1, frm (fun a k => (a = y ∧ k = 1) ∨ a = y + 1 ∨ a = y + 2 ∨ a = y + 5) h h1 → (asE h1 y g (cdZ w 1 + scZ 1)) → (asS h1 y w 1) → Q none h1) : mCal TB0 ad (dd + 8) M_X9_assign [.ref y, .ref f, .int (zI 1), .int (zI s)] h 0 0 Q := by
  refine ⟨Nat.le_of_ble_eq_true rfl, ?_⟩
  show mEv TB0 ad M_X9_assign (dd + 8) (0, 0) (mCal TB0 ad (dd + 7)) (fun v h' z => z.1 = 0 ∧ Q v h') 0 [some (.ref y), some (.ref f), some (.int (zI 1)), some (.int (zI s)), none, none] [] h (0, 0)
  have FR0 : frm (fun a k => (a = y ∧ k = 1) ∨ a = y + 1 ∨ a = y + 2 ∨ a = y + 5) h h := frm_0 h
  have w1 := isF_n HF
  have w2 := isF_nd HF
  have w3 := isF_nu HF
  have w4 := isF_nc HF
  have W := isF_w HF
  have wf := isF_w HF
  have sb := asP_b W.2.2 (by omega) pn pa
  have ub := abU_b HU (c := 1) (by omega) (by omega)
  have bb := bsS_b W.2.2 HV
  refine e_iload_n dX9_assign_0 rfl ?_
  refine z_if_lt 25 dX9_assign_1 rfl ⟨by omega, by omega⟩ (fun c1 => ?_) (fun c1 => ?_)
  · exfalso; omega
  · skip
    refine e_iload_n dX9_assign_4 rfl ?_
    refine z_bipush (6) dX9_assign_5 rfl ?_
    refine z_icmp_gt 25 dX9_assign_7 rfl ⟨by omega, by omega⟩ ⟨by omega, by omega⟩ (fun c2 => ?_) (fun c2 => ?_)
    · exfalso; omega
    · skip
      refine e_iload_n dX9_assign_10 rfl ?_
      refine e_aload_n dX9_assign_11 rfl ?_
      refine e_get (.ref (y + 6)) dX9_assign_12 tf_9_32 (congrArg Prod.fst (wk_s0 hk)) (congrArg va_rf (wk_r0_6 hk)) ?_
      refine e_iload_n dX9_assign_15 rfl ?_
      refine z_ild (rI h (y + 6) 1) dX9_assign_16 (wk_s6 hk) (by decide) (by omega) (by omega) rfl ?_
      refine z_iadd dX9_assign_17 ?_
      refine e_aload_n dX9_assign_18 rfl ?_
      refine z_get (rI h y 1) dX9_assign_19 tf_9_15 (congrArg Prod.fst (wk_s0 hk)) (Or.inl rfl) rfl ?_
      refine z_icmp_gt 26 dX9_assign_22 rfl ⟨by omega, by omega⟩ ⟨by omega, by omega⟩ (fun c3 => ?_) (fun c3 => ?_)
      · skip
        refine e_iload_n dX9_assign_26 rfl ?_
        refine e_aload_n dX9_assign_27 rfl ?_
        refine z_get (nc g) dX9_assign_28 tf_9_56 (congrArg Prod.fst (fg_s0 hk1)) (Or.inl rfl) (isF_nc HF) ?_
        have y4 := isF_n HF
        refine z_icmp_ge 40 dX9_assign_31 rfl ⟨by omega, by omega⟩ ⟨by omega, by omega⟩ (fun c5 => ?_) (fun c5 => ?_)
        · skip
          skip
          refine e_aload_n dX9_assign_40 rfl ?_
          refine e_iload_n dX9_assign_41 rfl ?_
          refine e_callV [.int _] dX9_assign_42 tm_9_78 rfl (Nat.le_of_ble_eq_true rfl) (congrArg Prod.fst (wk_s0 hk)) (Nat.le_of_ble_eq_true rfl) (Nat.le_refl _) (Nat.le_refl _) rfl (zp_X9_keepRow hk s ⟨by omega, by omega⟩ (fun  h6 f7 p8 p9 => ?_))
          have k10 := lk_q (frm_s f7) hk
          have k11 := lk_q (frm_s f7) hk1
          have H12 := isF_c f7 (fun a k q1 q2 => by omega) HF
          have H13 := mgT_c f7 (fun a k q => by omega) HT
          have H14 := abU_c f7 (fun a k q => by omega) HU
          have H15 := asS_c f7 (fun a k q => by omega) HA
          have FR16 := frm_t FR0 (frm_m (S' := (fun a k => (a = y ∧ k = 1) ∨ a = y + 1 ∨ a = y + 2 ∨ a = y + 5)) f7 (fun a k q => by omega))
          skip
          refine e_vret dX9_assign_45 rfl ⟨rfl, ?_⟩
          exact kq _ FR16 (asP_leaf wf (by omega) (by omega) pa HU HV HA (by omega) p8 p9) H15
        · skip
          skip
          refine e_iload_n dX9_assign_34 rfl ?_
          refine z_bipush (6) dX9_assign_35 rfl ?_
          refine z_icmp_lt 46 dX9_assign_37 rfl ⟨by omega, by omega⟩ ⟨by omega, by omega⟩ (fun c17 => ?_) (fun c17 => ?_)
          · skip
            refine z_iconst (0) dX9_assign_46 rfl ?_
            refine e_istore (L' := [_, _, _, _, _, _]) dX9_assign_47 (Nat.le_of_ble_eq_true rfl) rfl ?_
            have lp18 : ∀ (n18 : Nat) (d u : Int) (h18 : mH), (nd g - d).toNat = n18 → (wkk h18 y) → (fgk h18 f) → (isF h18 f g) → (mgT h18 y g) → (abU h18 y g) → (asS h18 y w 1) → (frm (fun a k => (a = y ∧ k = 1) ∨ a = y + 1 ∨ a = y + 2 ∨ a = y + 5) h h18) → (0 ≤ d ∧ d ≤ nd g) → (fmax (vaW g) (suW g) (cdZ w 1 + d * scZ (1 + 1)) u) → (bsS h18 y g u) → mEv TB0 ad M_X9_assign (dd + 8) (0, 0) (mCal TB0 ad (dd + 7)) (fun v h' z => z.1 = 0 ∧ Q v h') 49 [some (.ref y), some (.ref f), some (.int (zI 1)), some (.int (zI s)), some (.int (zI d)), none] [] h18 (0, 0) := by
              intro n18
              induction n18 using Nat.strongRecOn with
              | ind n18 ih18 =>
              intro d u h18 hn18 k19 k20 H21 H22 H23 H24 FR25 I1 IF IB
              refine e_iload dX9_assign_49 rfl ?_
              have ib := bsS_b W.2.2 IB
              refine e_aload_n dX9_assign_51 rfl ?_
              refine e_get (.ref (f + 1)) dX9_assign_52 tf_9_82 (congrArg Prod.fst (fg_s0 k20)) (congrArg va_rf (fg_r0_0 k20)) ?_
              refine z_get (nd g) dX9_assign_55 tf_9_86 (congrArg Prod.fst (fg_s1 k20)) (Or.inl rfl) (isF_nd H21) ?_
              have y26 := isF_n H21
              refine z_icmp_ge 161 dX9_assign_58 rfl ⟨by omega, by omega⟩ ⟨by omega, by omega⟩ (fun c27 => ?_) (fun c27 => ?_)
              · skip
                have I6 := asP_hi (c := 1) (by omega) (by omega) (by omega) (by omega) pa (6 - d).toNat d (by omega) (by omega) IF
                refine e_aload_n dX9_assign_161 rfl ?_
                refine e_get (.ref (y + 2)) dX9_assign_162 tf_9_19 (congrArg Prod.fst (wk_s0 k19)) (congrArg va_rf (wk_r0_2 k19)) ?_
                refine e_iload_n dX9_assign_165 rfl ?_
                refine z_bipush (6) dX9_assign_166 rfl ?_
                refine z_ist dX9_assign_168 (wk_s2 k19) (by decide) (by omega) (by omega) (fun h28 e29 => ?_)
                have f30 := frm_1 e29
                have k31 := lk_q (frm_s f30) k19
                have k32 := lk_q (frm_s f30) k20
                have H33 := isF_c f30 (fun a k q1 q2 => by omega) H21
                have H34 := mgT_c f30 (fun a k q => by omega) H22
                have H35 := abU_c f30 (fun a k q => by omega) H23
                have H36 := bsS_c f30 (fun a k q => by omega) IB
                have FR37 := frm_t FR25 (frm_m (S' := (fun a k => (a = y ∧ k = 1) ∨ a = y + 1 ∨ a = y + 2 ∨ a = y + 5)) f30 (fun a k q => by omega))
                have A38 : asS h28 y (setG w 1 6) (1 + 1) := asS_6 H24 (by omega) (fun e a b => (frm_r f30 (by omega))) (by exact (rI_eq e29 ⟨by omega, by omega⟩)) (fun e a b => (frm_r f30 (by omega)))
                have pin := asP_in (c := 1) (d := 6) (by omega) pa I6 rfl (Or.inl (if_pos rfl)) s (by rw [if_neg (by omega)]; omega)
                refine e_aload_n dX9_assign_169 rfl ?_
                refine e_aload_n dX9_assign_170 rfl ?_
                refine e_iload_n dX9_assign_171 rfl ?_
                refine z_iconst (1) dX9_assign_172 rfl ?_
                refine z_iadd dX9_assign_173 ?_
                refine e_iload_n dX9_assign_174 rfl ?_
                refine e_callS [.ref _, .ref _, .int _, .int _] dX9_assign_175 tm_9_52 rfl (Nat.le_of_ble_eq_true rfl) (Nat.le_refl _) (Nat.le_refl _) rfl (zp_X9_assign_2 k31 k32 H33 H34 H35 A38 H36 s ⟨by omega, by omega⟩ (by omega) pin (by omega) (fun  h39 f40 p41 p42 => ?_))
                have k43 := lk_q (frm_s f40) k31
                have k44 := lk_q (frm_s f40) k32
                have H45 := isF_c f40 (fun a k q1 q2 => by omega) H33
                have H46 := mgT_c f40 (fun a k q => by omega) H34
                have H47 := abU_c f40 (fun a k q => by omega) H35
                have FR48 := frm_t FR37 (frm_m (S' := (fun a k => (a = y ∧ k = 1) ∨ a = y + 1 ∨ a = y + 2 ∨ a = y + 5)) f40 (fun a k q => by omega))
                skip
                refine e_vret dX9_assign_178 rfl ⟨rfl, ?_⟩
                have ZZ : cdZ (setG w 1 6) (1 + 1) + scZ (1 + 1) = cdZ w 1 + scZ 1 := by rw [cd_set (by omega), (sc_s (n := 1) (by omega) (by omega)).1]; omega
                exact kq _ FR48 (by rw [← ZZ]; exact p41) (asS_q p42 (by omega))
              · skip
                refine e_iload dX9_assign_61 rfl ?_
                refine z_bipush (6) dX9_assign_63 rfl ?_
                refine z_icmp_ge 161 dX9_assign_65 rfl ⟨by omega, by omega⟩ ⟨by omega, by omega⟩ (fun c49 => ?_) (fun c49 => ?_)
                · skip
                  have I6 := asP_hi (c := 1) (by omega) (by omega) (by omega) (by omega) pa (6 - d).toNat d (by omega) (by omega) IF
                  refine e_aload_n dX9_assign_161 rfl ?_
                  refine e_get (.ref (y + 2)) dX9_assign_162 tf_9_19 (congrArg Prod.fst (wk_s0 k19)) (congrArg va_rf (wk_r0_2 k19)) ?_
                  refine e_iload_n dX9_assign_165 rfl ?_
                  refine z_bipush (6) dX9_assign_166 rfl ?_
                  refine z_ist dX9_assign_168 (wk_s2 k19) (by decide) (by omega) (by omega) (fun h50 e51 => ?_)
                  have f52 := frm_1 e51
                  have k53 := lk_q (frm_s f52) k19
                  have k54 := lk_q (frm_s f52) k20
                  have H55 := isF_c f52 (fun a k q1 q2 => by omega) H21
                  have H56 := mgT_c f52 (fun a k q => by omega) H22
                  have H57 := abU_c f52 (fun a k q => by omega) H23
                  have H58 := bsS_c f52 (fun a k q => by omega) IB
                  have FR59 := frm_t FR25 (frm_m (S' := (fun a k => (a = y ∧ k = 1) ∨ a = y + 1 ∨ a = y + 2 ∨ a = y + 5)) f52 (fun a k q => by omega))
                  have A60 : asS h50 y (setG w 1 6) (1 + 1) := asS_6 H24 (by omega) (fun e a b => (frm_r f52 (by omega))) (by exact (rI_eq e51 ⟨by omega, by omega⟩)) (fun e a b => (frm_r f52 (by omega)))
                  have pin := asP_in (c := 1) (d := 6) (by omega) pa I6 rfl (Or.inl (if_pos rfl)) s (by rw [if_neg (by omega)]; omega)
                  refine e_aload_n dX9_assign_169 rfl ?_
                  refine e_aload_n dX9_assign_170 rfl ?_
                  refine e_iload_n dX9_assign_171 rfl ?_
                  refine z_iconst (1) dX9_assign_172 rfl ?_
                  refine z_iadd dX9_assign_173 ?_
                  refine e_iload_n dX9_assign_174 rfl ?_
                  refine e_callS [.ref _, .ref _, .int _, .int _] dX9_assign_175 tm_9_52 rfl (Nat.le_of_ble_eq_true rfl) (Nat.le_refl _) (Nat.le_refl _) rfl (zp_X9_assign_2 k53 k54 H55 H56 H57 A60 H58 s ⟨by omega, by omega⟩ (by omega) pin (by omega) (fun  h61 f62 p63 p64 => ?_))
                  have k65 := lk_q (frm_s f62) k53
                  have k66 := lk_q (frm_s f62) k54
                  have H67 := isF_c f62 (fun a k q1 q2 => by omega) H55
                  have H68 := mgT_c f62 (fun a k q => by omega) H56
                  have H69 := abU_c f62 (fun a k q => by omega) H57
                  have FR70 := frm_t FR59 (frm_m (S' := (fun a k => (a = y ∧ k = 1) ∨ a = y + 1 ∨ a = y + 2 ∨ a = y + 5)) f62 (fun a k q => by omega))
                  skip
                  refine e_vret dX9_assign_178 rfl ⟨rfl, ?_⟩
                  have ZZ : cdZ (setG w 1 6) (1 + 1) + scZ (1 + 1) = cdZ w 1 + scZ 1 := by rw [cd_set (by omega), (sc_s (n := 1) (by omega) (by omega)).1]; omega
                  exact kq _ FR70 (by rw [← ZZ]; exact p63) (asS_q p64 (by omega))
                · skip
                  refine e_aload_n dX9_assign_68 rfl ?_
                  refine e_get (.ref (y + 5)) dX9_assign_69 tf_9_29 (congrArg Prod.fst (wk_s0 k19)) (congrArg va_rf (wk_r0_5 k19)) ?_
                  refine e_iload dX9_assign_72 rfl ?_
                  refine z_ild (rI h18 (y + 5) d) dX9_assign_74 (wk_s5 k19) (by decide) (by omega) (by omega) rfl ?_
                  have y71 := ((H24).1 d (by omega) (by omega)).1
                  refine z_iconst (1) dX9_assign_75 rfl ?_
                  refine e_iload_n dX9_assign_76 rfl ?_
                  refine z_ishl dX9_assign_77 (by omega) (by omega) (by omega) (by omega) ?_
                  have y72 := shlZ_b 1 1
                  refine z_ior dX9_assign_78 (by omega) (by omega) (by omega) (by omega) ?_
                  have y73 := orZ_b (rI h18 (y + 5) d) (shlZ 1 1)
                  refine e_istore (L' := [_, _, _, _, _, _]) dX9_assign_79 (Nat.le_of_ble_eq_true rfl) rfl ?_
                  have hS := asS_h H24 (c := 1) (d := d) (by omega) (by omega)
                  have ob := or_b (k := 1) ((H24).1 d (by omega) (by omega)).1.2 (by omega)
                  have ob : 0 ≤ (orZ (rI h18 (y + 5) d) (shlZ 1 1)) ∧ (orZ (rI h18 (y + 5) d) (shlZ 1 1)) < 64 := ob
                  refine e_aload_n dX9_assign_81 rfl ?_
                  refine e_iload dX9_assign_82 rfl ?_
                  refine e_callV [.int _] dX9_assign_84 tm_9_91 rfl (Nat.le_of_ble_eq_true rfl) (congrArg Prod.fst (fg_s0 k20)) (Nat.le_of_ble_eq_true rfl) (Nat.le_refl _) (Nat.le_refl _) rfl (zp_X2_upOf k20 H21 d ⟨by omega, by omega⟩ ?_)
                  have y74 := upv_s (isF_w H21) d
                  refine z_iconst (-1) dX9_assign_87 rfl ?_
                  refine z_icmp_eq 155 dX9_assign_88 rfl ⟨by omega, by omega⟩ ⟨by omega, by omega⟩ (fun c75 => ?_) (fun c75 => ?_)
                  · skip
                    have nok : ¬ okD g (setG w 1 d) 1 := as_no (by omega) (by omega) (by omega) (by omega) hS (Or.inl (by omega))
                    refine z_iinc (L' := [_, _, _, _, _, _]) dX9_assign_155 rfl rfl ?_
                    refine e_goto 49 dX9_assign_158 rfl ?_
                    exact mEv_wk (by exact ⟨Or.inr rfl, Or.inr rfl, Or.inr rfl, Or.inr rfl, Or.inr rfl, Or.inl rfl, trivial⟩) (ih18 _ (by omega) (d + 1) u h18 rfl k19 k20 H21 H22 H23 H24 FR25 (by omega) (asP_sk (c := 1) (d := d) (by omega) (by omega) (by omega) (by omega) (by omega) pa IF rfl (by rw [Int.add_mul, Int.one_mul]; omega) nok) IB)
                  · skip
                    refine e_aload_n dX9_assign_91 rfl ?_
                    refine e_get (.ref (y + 4)) dX9_assign_92 tf_9_25 (congrArg Prod.fst (wk_s0 k19)) (congrArg va_rf (wk_r0_4 k19)) ?_
                    refine e_iload dX9_assign_95 rfl ?_
                    refine z_bipush (64) dX9_assign_97 rfl ?_
                    refine z_imul dX9_assign_99 ?_
                    refine e_iload dX9_assign_100 rfl ?_
                    refine z_iadd dX9_assign_102 ?_
                    refine z_zld (rI h18 (y + 4) ((d * 64) + (orZ (rI h18 (y + 5) d) (shlZ 1 1)))) dX9_assign_103 (wk_s4 k19) (by decide) (by omega) (by omega) rfl ?_
                    have y76 := mgT_b H22 (d := d) (s := (orZ (rI h18 (y + 5) d) (shlZ 1 1))) (by omega) (by omega) (by omega) (by omega)
                    refine z_if_eq 155 dX9_assign_104 rfl ⟨by omega, by omega⟩ (fun c77 => ?_) (fun c77 => ?_)
                    · skip
                      have nok : ¬ okD g (setG w 1 d) 1 := as_no (by omega) (by omega) (by omega) (by omega) hS (Or.inr (mgT_0 H22 (by omega) (by omega) (by omega) (by omega) (by assumption)))
                      refine z_iinc (L' := [_, _, _, _, _, _]) dX9_assign_155 rfl rfl ?_
                      refine e_goto 49 dX9_assign_158 rfl ?_
                      exact mEv_wk (by exact ⟨Or.inr rfl, Or.inr rfl, Or.inr rfl, Or.inr rfl, Or.inr rfl, Or.inl rfl, trivial⟩) (ih18 _ (by omega) (d + 1) u h18 rfl k19 k20 H21 H22 H23 H24 FR25 (by omega) (asP_sk (c := 1) (d := d) (by omega) (by omega) (by omega) (by omega) (by omega) pa IF rfl (by rw [Int.add_mul, Int.one_mul]; omega) nok) IB)
                    · skip
                      have mgy : mgP g d (orZ (rI h18 (y + 5) d) (shlZ 1 1)) := mgT_1 H22 (by omega) (by omega) (by omega) (by omega) (by assumption)
                      refine e_aload_n dX9_assign_107 rfl ?_
                      refine e_get (.ref (y + 5)) dX9_assign_108 tf_9_29 (congrArg Prod.fst (wk_s0 k19)) (congrArg va_rf (wk_r0_5 k19)) ?_
                      refine e_iload dX9_assign_111 rfl ?_
                      refine e_iload dX9_assign_113 rfl ?_
                      refine z_ist dX9_assign_115 (wk_s5 k19) (by decide) (by omega) (by omega) (fun h78 e79 => ?_)
                      have f80 := frm_1 e79
                      have k81 := lk_q (frm_s f80) k19
                      have k82 := lk_q (frm_s f80) k20
                      have H83 := isF_c f80 (fun a k q1 q2 => by omega) H21
                      have H84 := mgT_c f80 (fun a k q => by omega) H22
                      have H85 := abU_c f80 (fun a k q => by omega) H23
                      have H86 := bsS_c f80 (fun a k q => by omega) IB
                      have FR87 := frm_t FR25 (frm_m (S' := (fun a k => (a = y ∧ k = 1) ∨ a = y + 1 ∨ a = y + 2 ∨ a = y + 5)) f80 (fun a k q => by omega))
                      refine e_aload_n dX9_assign_116 rfl ?_
                      refine e_get (.ref (y + 2)) dX9_assign_117 tf_9_19 (congrArg Prod.fst (wk_s0 k81)) (congrArg va_rf (wk_r0_2 k81)) ?_
                      refine e_iload_n dX9_assign_120 rfl ?_
                      refine e_iload dX9_assign_121 rfl ?_
                      refine z_ist dX9_assign_123 (wk_s2 k81) (by decide) (by omega) (by omega) (fun h88 e89 => ?_)
                      have f90 := frm_1 e89
                      have k91 := lk_q (frm_s f90) k81
                      have k92 := lk_q (frm_s f90) k82
                      have H93 := isF_c f90 (fun a k q1 q2 => by omega) H83
                      have H94 := mgT_c f90 (fun a k q => by omega) H84
                      have H95 := abU_c f90 (fun a k q => by omega) H85
                      have H96 := bsS_c f90 (fun a k q => by omega) H86
                      have FR97 := frm_t FR87 (frm_m (S' := (fun a k => (a = y ∧ k = 1) ∨ a = y + 1 ∨ a = y + 2 ∨ a = y + 5)) f90 (fun a k q => by omega))
                      have A98 : asS h88 y (setG w 1 d) (1 + 1) := asS_y H24 (by omega) (by omega) (by omega) rfl (by exact ((frm_r f90 (by omega)).trans (rI_eq e79 ⟨by omega, by omega⟩))) (fun e a b n => ((frm_r f90 (by omega)).trans (frm_r f80 (by omega)))) (by exact (rI_eq e89 ⟨by omega, by omega⟩)) (fun e a b => ((frm_r f90 (by omega)).trans (frm_r f80 (by omega))))
                      have oky : okD g (setG w 1 d) 1 := as_ok (by omega) (by omega) (by omega) (by omega) (by omega) hS mgy
                      have pin := asP_in (c := 1) (d := d) (by omega) pa IF rfl oky (s + pr g 1) (by rw [if_pos (by omega)])
                      refine e_aload_n dX9_assign_124 rfl ?_
                      refine e_aload_n dX9_assign_125 rfl ?_
                      refine e_iload_n dX9_assign_126 rfl ?_
                      refine z_iconst (1) dX9_assign_127 rfl ?_
                      refine z_iadd dX9_assign_128 ?_
                      refine e_iload_n dX9_assign_129 rfl ?_
                      refine e_aload_n dX9_assign_130 rfl ?_
                      refine e_get (.ref (f + 14)) dX9_assign_131 tf_9_75 (congrArg Prod.fst (fg_s0 k92)) (congrArg va_rf (fg_r0_3 k92)) ?_
                      refine e_iload_n dX9_assign_134 rfl ?_
                      refine z_ild (pr g 1) dX9_assign_135 (fg_s14 k92) (by decide) (by omega) (by omega) (isF_pr H93 (by omega) (by omega)) ?_
                      have y99 := wC_c (isF_w H93).2.2 (show 0 ≤ 1 by omega) (by omega)
                      refine z_iadd dX9_assign_136 ?_
                      refine e_callS [.ref _, .ref _, .int _, .int _] dX9_assign_137 tm_9_52 rfl (Nat.le_of_ble_eq_true rfl) (Nat.le_refl _) (Nat.le_refl _) rfl (zp_X9_assign_2 k91 k92 H93 H94 H95 A98 H96 (s + (pr g 1)) ⟨by omega, by omega⟩ (by omega) pin (by omega) (fun  h100 f101 p102 p103 => ?_))
                      have k104 := lk_q (frm_s f101) k91
                      have k105 := lk_q (frm_s f101) k92
                      have H106 := isF_c f101 (fun a k q1 q2 => by omega) H93
                      have H107 := mgT_c f101 (fun a k q => by omega) H94
                      have H108 := abU_c f101 (fun a k q => by omega) H95
                      have FR109 := frm_t FR97 (frm_m (S' := (fun a k => (a = y ∧ k = 1) ∨ a = y + 1 ∨ a = y + 2 ∨ a = y + 5)) f101 (fun a k q => by omega))
                      obtain ⟨u2, F2, B2⟩ := p102
                      refine e_aload_n dX9_assign_140 rfl ?_
                      refine e_get (.ref (y + 5)) dX9_assign_141 tf_9_29 (congrArg Prod.fst (wk_s0 k104)) (congrArg va_rf (wk_r0_5 k104)) ?_
                      refine e_iload dX9_assign_144 rfl ?_
                      refine e_iload dX9_assign_146 rfl ?_
                      refine z_iconst (1) dX9_assign_148 rfl ?_
                      refine e_iload_n dX9_assign_149 rfl ?_
                      refine z_ishl dX9_assign_150 (by omega) (by omega) (by omega) (by omega) ?_
                      have y110 := shlZ_b 1 1
                      refine z_iconst (-1) dX9_assign_151 rfl ?_
                      refine z_inot dX9_assign_152 (by omega) ?_
                      refine z_iandn dX9_assign_153 (by omega) (by omega) ?_
                      have y111 := subS_b (orZ (rI h18 (y + 5) d) (shlZ 1 1)) (shlZ 1 1)
                      refine z_ist dX9_assign_154 (wk_s5 k104) (by decide) (by omega) (by omega) (fun h112 e113 => ?_)
                      have f114 := frm_1 e113
                      have k115 := lk_q (frm_s f114) k104
                      have k116 := lk_q (frm_s f114) k105
                      have H117 := isF_c f114 (fun a k q1 q2 => by omega) H106
                      have H118 := mgT_c f114 (fun a k q => by omega) H107
                      have H119 := abU_c f114 (fun a k q => by omega) H108
                      have FR120 := frm_t FR109 (frm_m (S' := (fun a k => (a = y ∧ k = 1) ∨ a = y + 1 ∨ a = y + 2 ∨ a = y + 5)) f114 (fun a k q => by omega))
                      have A121 : asS h112 y w 1 := asS_z p103 (by omega) (by omega) (by omega) hS ob (by exact (rI_eq e113 ⟨by omega, by omega⟩)) (fun e a b n => (frm_r f114 (by omega))) (fun e a b => (frm_r f114 (by omega)))
                      have B122 := bsS_c f114 (fun a k q => by omega) B2
                      refine z_iinc (L' := [_, _, _, _, _, _]) dX9_assign_155 rfl rfl ?_
                      refine e_goto 49 dX9_assign_158 rfl ?_
                      exact mEv_wk (by exact ⟨Or.inr rfl, Or.inr rfl, Or.inr rfl, Or.inr rfl, Or.inr rfl, Or.inl rfl, trivial⟩) (ih18 _ (by omega) (d + 1) u2 h112 rfl k115 k116 H117 H118 H119 A121 FR120 (by omega) (by have zz : cdZ (setG w 1 d) (1 + 1) + scZ (1 + 1) = cdZ w 1 + (d + 1) * scZ (1 + 1) := (by rw [cd_set (by omega), Int.add_mul, Int.one_mul]; omega); rw [← zz]; exact F2) B122)
            exact lp18 _ 0 v h rfl hk hk1 HF HT HU HA FR0 (by omega) (by rw [Int.zero_mul, Int.add_zero]; exact pa.2.2) HV
          · exfalso; omega
      · skip
        skip
        refine e_vret dX9_assign_25 rfl ⟨rfl, ?_⟩
        exact kq _ FR0 (asP_prune wf (by omega) pn pa HU HV (by omega)) HA
set_option maxHeartbeats 4000000 in
theorem zp_X9_assign_0 {ad : mA} {dd : Nat} {h : mH} {Q : mQ} {y f : Nat} {g w : Int → Int} {v : Int} (hk : wkk h y) (hk1 : fgk h f) (HF : isF h f g) (HT : mgT h y g) (HU : abU h y g) (HA : asS h y w 0) (HV : bsS h y g v)  (s : Int) (s_r : -2147483648 ≤ s ∧ s < 2147483648) (pn : (0 : Int) ≤ nc g) (pa : asP g w 0 s v) (pf : y + 7 ≤ f ∨ f + 16 ≤ y) (kq : ∀ h1, frm (fun a k => (a = y ∧ k = 1) ∨ a = y + 1 ∨ a = y + 2 ∨ a = y + 5) h h1 → (asE h1 y g (cdZ w 0 + scZ 0)) → (asS h1 y w 0) → Q none h1) : mCal TB0 ad (dd + 9) M_X9_assign [.ref y, .ref f, .int (zI 0), .int (zI s)] h 0 0 Q := by
  refine ⟨Nat.le_of_ble_eq_true rfl, ?_⟩
  show mEv TB0 ad M_X9_assign (dd + 9) (0, 0) (mCal TB0 ad (dd + 8)) (fun v h' z => z.1 = 0 ∧ Q v h') 0 [some (.ref y), some (.ref f), some (.int (zI 0)), some (.int (zI s)), none, none] [] h (0, 0)
  have FR0 : frm (fun a k => (a = y ∧ k = 1) ∨ a = y + 1 ∨ a = y + 2 ∨ a = y + 5) h h := frm_0 h
  have w1 := isF_n HF
  have w2 := isF_nd HF
  have w3 := isF_nu HF
  have w4 := isF_nc HF
  have W := isF_w HF
  have wf := isF_w HF
  have sb := asP_b W.2.2 (by omega) pn pa
  have ub := abU_b HU (c := 0) (by omega) (by omega)
  have bb := bsS_b W.2.2 HV
  refine e_iload_n dX9_assign_0 rfl ?_
  refine z_if_lt 25 dX9_assign_1 rfl ⟨by omega, by omega⟩ (fun c1 => ?_) (fun c1 => ?_)
  · exfalso; omega
  · skip
    refine e_iload_n dX9_assign_4 rfl ?_
    refine z_bipush (6) dX9_assign_5 rfl ?_
    refine z_icmp_gt 25 dX9_assign_7 rfl ⟨by omega, by omega⟩ ⟨by omega, by omega⟩ (fun c2 => ?_) (fun c2 => ?_)
    · exfalso; omega
    · skip
      refine e_iload_n dX9_assign_10 rfl ?_
      refine e_aload_n dX9_assign_11 rfl ?_
      refine e_get (.ref (y + 6)) dX9_assign_12 tf_9_32 (congrArg Prod.fst (wk_s0 hk)) (congrArg va_rf (wk_r0_6 hk)) ?_
      refine e_iload_n dX9_assign_15 rfl ?_
      refine z_ild (rI h (y + 6) 0) dX9_assign_16 (wk_s6 hk) (by decide) (by omega) (by omega) rfl ?_
      refine z_iadd dX9_assign_17 ?_
      refine e_aload_n dX9_assign_18 rfl ?_
      refine z_get (rI h y 1) dX9_assign_19 tf_9_15 (congrArg Prod.fst (wk_s0 hk)) (Or.inl rfl) rfl ?_
      refine z_icmp_gt 26 dX9_assign_22 rfl ⟨by omega, by omega⟩ ⟨by omega, by omega⟩ (fun c3 => ?_) (fun c3 => ?_)
      · skip
        refine e_iload_n dX9_assign_26 rfl ?_
        refine e_aload_n dX9_assign_27 rfl ?_
        refine z_get (nc g) dX9_assign_28 tf_9_56 (congrArg Prod.fst (fg_s0 hk1)) (Or.inl rfl) (isF_nc HF) ?_
        have y4 := isF_n HF
        refine z_icmp_ge 40 dX9_assign_31 rfl ⟨by omega, by omega⟩ ⟨by omega, by omega⟩ (fun c5 => ?_) (fun c5 => ?_)
        · skip
          skip
          refine e_aload_n dX9_assign_40 rfl ?_
          refine e_iload_n dX9_assign_41 rfl ?_
          refine e_callV [.int _] dX9_assign_42 tm_9_78 rfl (Nat.le_of_ble_eq_true rfl) (congrArg Prod.fst (wk_s0 hk)) (Nat.le_of_ble_eq_true rfl) (Nat.le_refl _) (Nat.le_refl _) rfl (zp_X9_keepRow hk s ⟨by omega, by omega⟩ (fun  h6 f7 p8 p9 => ?_))
          have k10 := lk_q (frm_s f7) hk
          have k11 := lk_q (frm_s f7) hk1
          have H12 := isF_c f7 (fun a k q1 q2 => by omega) HF
          have H13 := mgT_c f7 (fun a k q => by omega) HT
          have H14 := abU_c f7 (fun a k q => by omega) HU
          have H15 := asS_c f7 (fun a k q => by omega) HA
          have FR16 := frm_t FR0 (frm_m (S' := (fun a k => (a = y ∧ k = 1) ∨ a = y + 1 ∨ a = y + 2 ∨ a = y + 5)) f7 (fun a k q => by omega))
          skip
          refine e_vret dX9_assign_45 rfl ⟨rfl, ?_⟩
          exact kq _ FR16 (asP_leaf wf (by omega) (by omega) pa HU HV HA (by omega) p8 p9) H15
        · skip
          skip
          refine e_iload_n dX9_assign_34 rfl ?_
          refine z_bipush (6) dX9_assign_35 rfl ?_
          refine z_icmp_lt 46 dX9_assign_37 rfl ⟨by omega, by omega⟩ ⟨by omega, by omega⟩ (fun c17 => ?_) (fun c17 => ?_)
          · skip
            refine z_iconst (0) dX9_assign_46 rfl ?_
            refine e_istore (L' := [_, _, _, _, _, _]) dX9_assign_47 (Nat.le_of_ble_eq_true rfl) rfl ?_
            have lp18 : ∀ (n18 : Nat) (d u : Int) (h18 : mH), (nd g - d).toNat = n18 → (wkk h18 y) → (fgk h18 f) → (isF h18 f g) → (mgT h18 y g) → (abU h18 y g) → (asS h18 y w 0) → (frm (fun a k => (a = y ∧ k = 1) ∨ a = y + 1 ∨ a = y + 2 ∨ a = y + 5) h h18) → (0 ≤ d ∧ d ≤ nd g) → (fmax (vaW g) (suW g) (cdZ w 0 + d * scZ (0 + 1)) u) → (bsS h18 y g u) → mEv TB0 ad M_X9_assign (dd + 9) (0, 0) (mCal TB0 ad (dd + 8)) (fun v h' z => z.1 = 0 ∧ Q v h') 49 [some (.ref y), some (.ref f), some (.int (zI 0)), some (.int (zI s)), some (.int (zI d)), none] [] h18 (0, 0) := by
              intro n18
              induction n18 using Nat.strongRecOn with
              | ind n18 ih18 =>
              intro d u h18 hn18 k19 k20 H21 H22 H23 H24 FR25 I1 IF IB
              refine e_iload dX9_assign_49 rfl ?_
              have ib := bsS_b W.2.2 IB
              refine e_aload_n dX9_assign_51 rfl ?_
              refine e_get (.ref (f + 1)) dX9_assign_52 tf_9_82 (congrArg Prod.fst (fg_s0 k20)) (congrArg va_rf (fg_r0_0 k20)) ?_
              refine z_get (nd g) dX9_assign_55 tf_9_86 (congrArg Prod.fst (fg_s1 k20)) (Or.inl rfl) (isF_nd H21) ?_
              have y26 := isF_n H21
              refine z_icmp_ge 161 dX9_assign_58 rfl ⟨by omega, by omega⟩ ⟨by omega, by omega⟩ (fun c27 => ?_) (fun c27 => ?_)
              · skip
                have I6 := asP_hi (c := 0) (by omega) (by omega) (by omega) (by omega) pa (6 - d).toNat d (by omega) (by omega) IF
                refine e_aload_n dX9_assign_161 rfl ?_
                refine e_get (.ref (y + 2)) dX9_assign_162 tf_9_19 (congrArg Prod.fst (wk_s0 k19)) (congrArg va_rf (wk_r0_2 k19)) ?_
                refine e_iload_n dX9_assign_165 rfl ?_
                refine z_bipush (6) dX9_assign_166 rfl ?_
                refine z_ist dX9_assign_168 (wk_s2 k19) (by decide) (by omega) (by omega) (fun h28 e29 => ?_)
                have f30 := frm_1 e29
                have k31 := lk_q (frm_s f30) k19
                have k32 := lk_q (frm_s f30) k20
                have H33 := isF_c f30 (fun a k q1 q2 => by omega) H21
                have H34 := mgT_c f30 (fun a k q => by omega) H22
                have H35 := abU_c f30 (fun a k q => by omega) H23
                have H36 := bsS_c f30 (fun a k q => by omega) IB
                have FR37 := frm_t FR25 (frm_m (S' := (fun a k => (a = y ∧ k = 1) ∨ a = y + 1 ∨ a = y + 2 ∨ a = y + 5)) f30 (fun a k q => by omega))
                have A38 : asS h28 y (setG w 0 6) (0 + 1) := asS_6 H24 (by omega) (fun e a b => (frm_r f30 (by omega))) (by exact (rI_eq e29 ⟨by omega, by omega⟩)) (fun e a b => (frm_r f30 (by omega)))
                have pin := asP_in (c := 0) (d := 6) (by omega) pa I6 rfl (Or.inl (if_pos rfl)) s (by rw [if_neg (by omega)]; omega)
                refine e_aload_n dX9_assign_169 rfl ?_
                refine e_aload_n dX9_assign_170 rfl ?_
                refine e_iload_n dX9_assign_171 rfl ?_
                refine z_iconst (1) dX9_assign_172 rfl ?_
                refine z_iadd dX9_assign_173 ?_
                refine e_iload_n dX9_assign_174 rfl ?_
                refine e_callS [.ref _, .ref _, .int _, .int _] dX9_assign_175 tm_9_52 rfl (Nat.le_of_ble_eq_true rfl) (Nat.le_refl _) (Nat.le_refl _) rfl (zp_X9_assign_1 k31 k32 H33 H34 H35 A38 H36 s ⟨by omega, by omega⟩ (by omega) pin (by omega) (fun  h39 f40 p41 p42 => ?_))
                have k43 := lk_q (frm_s f40) k31
                have k44 := lk_q (frm_s f40) k32
                have H45 := isF_c f40 (fun a k q1 q2 => by omega) H33
                have H46 := mgT_c f40 (fun a k q => by omega) H34
                have H47 := abU_c f40 (fun a k q => by omega) H35
                have FR48 := frm_t FR37 (frm_m (S' := (fun a k => (a = y ∧ k = 1) ∨ a = y + 1 ∨ a = y + 2 ∨ a = y + 5)) f40 (fun a k q => by omega))
                skip
                refine e_vret dX9_assign_178 rfl ⟨rfl, ?_⟩
                have ZZ : cdZ (setG w 0 6) (0 + 1) + scZ (0 + 1) = cdZ w 0 + scZ 0 := by rw [cd_set (by omega), (sc_s (n := 0) (by omega) (by omega)).1]; omega
                exact kq _ FR48 (by rw [← ZZ]; exact p41) (asS_q p42 (by omega))
              · skip
                refine e_iload dX9_assign_61 rfl ?_
                refine z_bipush (6) dX9_assign_63 rfl ?_
                refine z_icmp_ge 161 dX9_assign_65 rfl ⟨by omega, by omega⟩ ⟨by omega, by omega⟩ (fun c49 => ?_) (fun c49 => ?_)
                · skip
                  have I6 := asP_hi (c := 0) (by omega) (by omega) (by omega) (by omega) pa (6 - d).toNat d (by omega) (by omega) IF
                  refine e_aload_n dX9_assign_161 rfl ?_
                  refine e_get (.ref (y + 2)) dX9_assign_162 tf_9_19 (congrArg Prod.fst (wk_s0 k19)) (congrArg va_rf (wk_r0_2 k19)) ?_
                  refine e_iload_n dX9_assign_165 rfl ?_
                  refine z_bipush (6) dX9_assign_166 rfl ?_
                  refine z_ist dX9_assign_168 (wk_s2 k19) (by decide) (by omega) (by omega) (fun h50 e51 => ?_)
                  have f52 := frm_1 e51
                  have k53 := lk_q (frm_s f52) k19
                  have k54 := lk_q (frm_s f52) k20
                  have H55 := isF_c f52 (fun a k q1 q2 => by omega) H21
                  have H56 := mgT_c f52 (fun a k q => by omega) H22
                  have H57 := abU_c f52 (fun a k q => by omega) H23
                  have H58 := bsS_c f52 (fun a k q => by omega) IB
                  have FR59 := frm_t FR25 (frm_m (S' := (fun a k => (a = y ∧ k = 1) ∨ a = y + 1 ∨ a = y + 2 ∨ a = y + 5)) f52 (fun a k q => by omega))
                  have A60 : asS h50 y (setG w 0 6) (0 + 1) := asS_6 H24 (by omega) (fun e a b => (frm_r f52 (by omega))) (by exact (rI_eq e51 ⟨by omega, by omega⟩)) (fun e a b => (frm_r f52 (by omega)))
                  have pin := asP_in (c := 0) (d := 6) (by omega) pa I6 rfl (Or.inl (if_pos rfl)) s (by rw [if_neg (by omega)]; omega)
                  refine e_aload_n dX9_assign_169 rfl ?_
                  refine e_aload_n dX9_assign_170 rfl ?_
                  refine e_iload_n dX9_assign_171 rfl ?_
                  refine z_iconst (1) dX9_assign_172 rfl ?_
                  refine z_iadd dX9_assign_173 ?_
                  refine e_iload_n dX9_assign_174 rfl ?_
                  refine e_callS [.ref _, .ref _, .int _, .int _] dX9_assign_175 tm_9_52 rfl (Nat.le_of_ble_eq_true rfl) (Nat.le_refl _) (Nat.le_refl _) rfl (zp_X9_assign_1 k53 k54 H55 H56 H57 A60 H58 s ⟨by omega, by omega⟩ (by omega) pin (by omega) (fun  h61 f62 p63 p64 => ?_))
                  have k65 := lk_q (frm_s f62) k53
                  have k66 := lk_q (frm_s f62) k54
                  have H67 := isF_c f62 (fun a k q1 q2 => by omega) H55
                  have H68 := mgT_c f62 (fun a k q => by omega) H56
                  have H69 := abU_c f62 (fun a k q => by omega) H57
                  have FR70 := frm_t FR59 (frm_m (S' := (fun a k => (a = y ∧ k = 1) ∨ a = y + 1 ∨ a = y + 2 ∨ a = y + 5)) f62 (fun a k q => by omega))
                  skip
                  refine e_vret dX9_assign_178 rfl ⟨rfl, ?_⟩
                  have ZZ : cdZ (setG w 0 6) (0 + 1) + scZ (0 + 1) = cdZ w 0 + scZ 0 := by rw [cd_set (by omega), (sc_s (n := 0) (by omega) (by omega)).1]; omega
                  exact kq _ FR70 (by rw [← ZZ]; exact p63) (asS_q p64 (by omega))
                · skip
                  refine e_aload_n dX9_assign_68 rfl ?_
                  refine e_get (.ref (y + 5)) dX9_assign_69 tf_9_29 (congrArg Prod.fst (wk_s0 k19)) (congrArg va_rf (wk_r0_5 k19)) ?_
                  refine e_iload dX9_assign_72 rfl ?_
                  refine z_ild (rI h18 (y + 5) d) dX9_assign_74 (wk_s5 k19) (by decide) (by omega) (by omega) rfl ?_
                  have y71 := ((H24).1 d (by omega) (by omega)).1
                  refine z_iconst (1) dX9_assign_75 rfl ?_
                  refine e_iload_n dX9_assign_76 rfl ?_
                  refine z_ishl dX9_assign_77 (by omega) (by omega) (by omega) (by omega) ?_
                  have y72 := shlZ_b 1 0
                  refine z_ior dX9_assign_78 (by omega) (by omega) (by omega) (by omega) ?_
                  have y73 := orZ_b (rI h18 (y + 5) d) (shlZ 1 0)
                  refine e_istore (L' := [_, _, _, _, _, _]) dX9_assign_79 (Nat.le_of_ble_eq_true rfl) rfl ?_
                  have hS := asS_h H24 (c := 0) (d := d) (by omega) (by omega)
                  have ob := or_b (k := 0) ((H24).1 d (by omega) (by omega)).1.2 (by omega)
                  have ob : 0 ≤ (orZ (rI h18 (y + 5) d) (shlZ 1 0)) ∧ (orZ (rI h18 (y + 5) d) (shlZ 1 0)) < 64 := ob
                  refine e_aload_n dX9_assign_81 rfl ?_
                  refine e_iload dX9_assign_82 rfl ?_
                  refine e_callV [.int _] dX9_assign_84 tm_9_91 rfl (Nat.le_of_ble_eq_true rfl) (congrArg Prod.fst (fg_s0 k20)) (Nat.le_of_ble_eq_true rfl) (Nat.le_refl _) (Nat.le_refl _) rfl (zp_X2_upOf k20 H21 d ⟨by omega, by omega⟩ ?_)
                  have y74 := upv_s (isF_w H21) d
                  refine z_iconst (-1) dX9_assign_87 rfl ?_
                  refine z_icmp_eq 155 dX9_assign_88 rfl ⟨by omega, by omega⟩ ⟨by omega, by omega⟩ (fun c75 => ?_) (fun c75 => ?_)
                  · skip
                    have nok : ¬ okD g (setG w 0 d) 0 := as_no (by omega) (by omega) (by omega) (by omega) hS (Or.inl (by omega))
                    refine z_iinc (L' := [_, _, _, _, _, _]) dX9_assign_155 rfl rfl ?_
                    refine e_goto 49 dX9_assign_158 rfl ?_
                    exact mEv_wk (by exact ⟨Or.inr rfl, Or.inr rfl, Or.inr rfl, Or.inr rfl, Or.inr rfl, Or.inl rfl, trivial⟩) (ih18 _ (by omega) (d + 1) u h18 rfl k19 k20 H21 H22 H23 H24 FR25 (by omega) (asP_sk (c := 0) (d := d) (by omega) (by omega) (by omega) (by omega) (by omega) pa IF rfl (by rw [Int.add_mul, Int.one_mul]; omega) nok) IB)
                  · skip
                    refine e_aload_n dX9_assign_91 rfl ?_
                    refine e_get (.ref (y + 4)) dX9_assign_92 tf_9_25 (congrArg Prod.fst (wk_s0 k19)) (congrArg va_rf (wk_r0_4 k19)) ?_
                    refine e_iload dX9_assign_95 rfl ?_
                    refine z_bipush (64) dX9_assign_97 rfl ?_
                    refine z_imul dX9_assign_99 ?_
                    refine e_iload dX9_assign_100 rfl ?_
                    refine z_iadd dX9_assign_102 ?_
                    refine z_zld (rI h18 (y + 4) ((d * 64) + (orZ (rI h18 (y + 5) d) (shlZ 1 0)))) dX9_assign_103 (wk_s4 k19) (by decide) (by omega) (by omega) rfl ?_
                    have y76 := mgT_b H22 (d := d) (s := (orZ (rI h18 (y + 5) d) (shlZ 1 0))) (by omega) (by omega) (by omega) (by omega)
                    refine z_if_eq 155 dX9_assign_104 rfl ⟨by omega, by omega⟩ (fun c77 => ?_) (fun c77 => ?_)
                    · skip
                      have nok : ¬ okD g (setG w 0 d) 0 := as_no (by omega) (by omega) (by omega) (by omega) hS (Or.inr (mgT_0 H22 (by omega) (by omega) (by omega) (by omega) (by assumption)))
                      refine z_iinc (L' := [_, _, _, _, _, _]) dX9_assign_155 rfl rfl ?_
                      refine e_goto 49 dX9_assign_158 rfl ?_
                      exact mEv_wk (by exact ⟨Or.inr rfl, Or.inr rfl, Or.inr rfl, Or.inr rfl, Or.inr rfl, Or.inl rfl, trivial⟩) (ih18 _ (by omega) (d + 1) u h18 rfl k19 k20 H21 H22 H23 H24 FR25 (by omega) (asP_sk (c := 0) (d := d) (by omega) (by omega) (by omega) (by omega) (by omega) pa IF rfl (by rw [Int.add_mul, Int.one_mul]; omega) nok) IB)
                    · skip
                      have mgy : mgP g d (orZ (rI h18 (y + 5) d) (shlZ 1 0)) := mgT_1 H22 (by omega) (by omega) (by omega) (by omega) (by assumption)
                      refine e_aload_n dX9_assign_107 rfl ?_
                      refine e_get (.ref (y + 5)) dX9_assign_108 tf_9_29 (congrArg Prod.fst (wk_s0 k19)) (congrArg va_rf (wk_r0_5 k19)) ?_
                      refine e_iload dX9_assign_111 rfl ?_
                      refine e_iload dX9_assign_113 rfl ?_
                      refine z_ist dX9_assign_115 (wk_s5 k19) (by decide) (by omega) (by omega) (fun h78 e79 => ?_)
                      have f80 := frm_1 e79
                      have k81 := lk_q (frm_s f80) k19
                      have k82 := lk_q (frm_s f80) k20
                      have H83 := isF_c f80 (fun a k q1 q2 => by omega) H21
                      have H84 := mgT_c f80 (fun a k q => by omega) H22
                      have H85 := abU_c f80 (fun a k q => by omega) H23
                      have H86 := bsS_c f80 (fun a k q => by omega) IB
                      have FR87 := frm_t FR25 (frm_m (S' := (fun a k => (a = y ∧ k = 1) ∨ a = y + 1 ∨ a = y + 2 ∨ a = y + 5)) f80 (fun a k q => by omega))
                      refine e_aload_n dX9_assign_116 rfl ?_
                      refine e_get (.ref (y + 2)) dX9_assign_117 tf_9_19 (congrArg Prod.fst (wk_s0 k81)) (congrArg va_rf (wk_r0_2 k81)) ?_
                      refine e_iload_n dX9_assign_120 rfl ?_
                      refine e_iload dX9_assign_121 rfl ?_
                      refine z_ist dX9_assign_123 (wk_s2 k81) (by decide) (by omega) (by omega) (fun h88 e89 => ?_)
                      have f90 := frm_1 e89
                      have k91 := lk_q (frm_s f90) k81
                      have k92 := lk_q (frm_s f90) k82
                      have H93 := isF_c f90 (fun a k q1 q2 => by omega) H83
                      have H94 := mgT_c f90 (fun a k q => by omega) H84
                      have H95 := abU_c f90 (fun a k q => by omega) H85
                      have H96 := bsS_c f90 (fun a k q => by omega) H86
                      have FR97 := frm_t FR87 (frm_m (S' := (fun a k => (a = y ∧ k = 1) ∨ a = y + 1 ∨ a = y + 2 ∨ a = y + 5)) f90 (fun a k q => by omega))
                      have A98 : asS h88 y (setG w 0 d) (0 + 1) := asS_y H24 (by omega) (by omega) (by omega) rfl (by exact ((frm_r f90 (by omega)).trans (rI_eq e79 ⟨by omega, by omega⟩))) (fun e a b n => ((frm_r f90 (by omega)).trans (frm_r f80 (by omega)))) (by exact (rI_eq e89 ⟨by omega, by omega⟩)) (fun e a b => ((frm_r f90 (by omega)).trans (frm_r f80 (by omega))))
                      have oky : okD g (setG w 0 d) 0 := as_ok (by omega) (by omega) (by omega) (by omega) (by omega) hS mgy
                      have pin := asP_in (c := 0) (d := d) (by omega) pa IF rfl oky (s + pr g 0) (by rw [if_pos (by omega)])
                      refine e_aload_n dX9_assign_124 rfl ?_
                      refine e_aload_n dX9_assign_125 rfl ?_
                      refine e_iload_n dX9_assign_126 rfl ?_
                      refine z_iconst (1) dX9_assign_127 rfl ?_
                      refine z_iadd dX9_assign_128 ?_
                      refine e_iload_n dX9_assign_129 rfl ?_
                      refine e_aload_n dX9_assign_130 rfl ?_
                      refine e_get (.ref (f + 14)) dX9_assign_131 tf_9_75 (congrArg Prod.fst (fg_s0 k92)) (congrArg va_rf (fg_r0_3 k92)) ?_
                      refine e_iload_n dX9_assign_134 rfl ?_
                      refine z_ild (pr g 0) dX9_assign_135 (fg_s14 k92) (by decide) (by omega) (by omega) (isF_pr H93 (by omega) (by omega)) ?_
                      have y99 := wC_c (isF_w H93).2.2 (show 0 ≤ 0 by omega) (by omega)
                      refine z_iadd dX9_assign_136 ?_
                      refine e_callS [.ref _, .ref _, .int _, .int _] dX9_assign_137 tm_9_52 rfl (Nat.le_of_ble_eq_true rfl) (Nat.le_refl _) (Nat.le_refl _) rfl (zp_X9_assign_1 k91 k92 H93 H94 H95 A98 H96 (s + (pr g 0)) ⟨by omega, by omega⟩ (by omega) pin (by omega) (fun  h100 f101 p102 p103 => ?_))
                      have k104 := lk_q (frm_s f101) k91
                      have k105 := lk_q (frm_s f101) k92
                      have H106 := isF_c f101 (fun a k q1 q2 => by omega) H93
                      have H107 := mgT_c f101 (fun a k q => by omega) H94
                      have H108 := abU_c f101 (fun a k q => by omega) H95
                      have FR109 := frm_t FR97 (frm_m (S' := (fun a k => (a = y ∧ k = 1) ∨ a = y + 1 ∨ a = y + 2 ∨ a = y + 5)) f101 (fun a k q => by omega))
                      obtain ⟨u2, F2, B2⟩ := p102
                      refine e_aload_n dX9_assign_140 rfl ?_
                      refine e_get (.ref (y + 5)) dX9_assign_141 tf_9_29 (congrArg Prod.fst (wk_s0 k104)) (congrArg va_rf (wk_r0_5 k104)) ?_
                      refine e_iload dX9_assign_144 rfl ?_
                      refine e_iload dX9_assign_146 rfl ?_
                      refine z_iconst (1) dX9_assign_148 rfl ?_
                      refine e_iload_n dX9_assign_149 rfl ?_
                      refine z_ishl dX9_assign_150 (by omega) (by omega) (by omega) (by omega) ?_
                      have y110 := shlZ_b 1 0
                      refine z_iconst (-1) dX9_assign_151 rfl ?_
                      refine z_inot dX9_assign_152 (by omega) ?_
                      refine z_iandn dX9_assign_153 (by omega) (by omega) ?_
                      have y111 := subS_b (orZ (rI h18 (y + 5) d) (shlZ 1 0)) (shlZ 1 0)
                      refine z_ist dX9_assign_154 (wk_s5 k104) (by decide) (by omega) (by omega) (fun h112 e113 => ?_)
                      have f114 := frm_1 e113
                      have k115 := lk_q (frm_s f114) k104
                      have k116 := lk_q (frm_s f114) k105
                      have H117 := isF_c f114 (fun a k q1 q2 => by omega) H106
                      have H118 := mgT_c f114 (fun a k q => by omega) H107
                      have H119 := abU_c f114 (fun a k q => by omega) H108
                      have FR120 := frm_t FR109 (frm_m (S' := (fun a k => (a = y ∧ k = 1) ∨ a = y + 1 ∨ a = y + 2 ∨ a = y + 5)) f114 (fun a k q => by omega))
                      have A121 : asS h112 y w 0 := asS_z p103 (by omega) (by omega) (by omega) hS ob (by exact (rI_eq e113 ⟨by omega, by omega⟩)) (fun e a b n => (frm_r f114 (by omega))) (fun e a b => (frm_r f114 (by omega)))
                      have B122 := bsS_c f114 (fun a k q => by omega) B2
                      refine z_iinc (L' := [_, _, _, _, _, _]) dX9_assign_155 rfl rfl ?_
                      refine e_goto 49 dX9_assign_158 rfl ?_
                      exact mEv_wk (by exact ⟨Or.inr rfl, Or.inr rfl, Or.inr rfl, Or.inr rfl, Or.inr rfl, Or.inl rfl, trivial⟩) (ih18 _ (by omega) (d + 1) u2 h112 rfl k115 k116 H117 H118 H119 A121 FR120 (by omega) (by have zz : cdZ (setG w 0 d) (0 + 1) + scZ (0 + 1) = cdZ w 0 + (d + 1) * scZ (0 + 1) := (by rw [cd_set (by omega), Int.add_mul, Int.one_mul]; omega); rw [← zz]; exact F2) B122)
            exact lp18 _ 0 v h rfl hk hk1 HF HT HU HA FR0 (by omega) (by rw [Int.zero_mul, Int.add_zero]; exact pa.2.2) HV
          · exfalso; omega
      · skip
        skip
        refine e_vret dX9_assign_25 rfl ⟨rfl, ?_⟩
        exact kq _ FR0 (asP_prune wf (by omega) pn pa HU HV (by omega)) HA
