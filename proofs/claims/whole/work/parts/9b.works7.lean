/-! WORKS: the class's search -/
theorem dX9_assign_0 : decode cX9_assign 0 = .ok (.iload_n 2, 1) := by decide +kernel
theorem dX9_assign_1 : decode cX9_assign 1 = .ok (.ifCond .lt 24, 3) := by decide +kernel
theorem dX9_assign_4 : decode cX9_assign 4 = .ok (.iload_n 2, 1) := by decide +kernel
theorem dX9_assign_5 : decode cX9_assign 5 = .ok (.bipush 6, 2) := by decide +kernel
theorem dX9_assign_7 : decode cX9_assign 7 = .ok (.if_icmp .gt 18, 3) := by decide +kernel
theorem dX9_assign_10 : decode cX9_assign 10 = .ok (.iload_n 3, 1) := by decide +kernel
theorem dX9_assign_11 : decode cX9_assign 11 = .ok (.aload_n 0, 1) := by decide +kernel
theorem dX9_assign_12 : decode cX9_assign 12 = .ok (.getfield 32, 3) := by decide +kernel
theorem dX9_assign_15 : decode cX9_assign 15 = .ok (.iload_n 2, 1) := by decide +kernel
theorem dX9_assign_16 : decode cX9_assign 16 = .ok (.iaload, 1) := by decide +kernel
theorem dX9_assign_17 : decode cX9_assign 17 = .ok (.iadd, 1) := by decide +kernel
theorem dX9_assign_18 : decode cX9_assign 18 = .ok (.aload_n 0, 1) := by decide +kernel
theorem dX9_assign_19 : decode cX9_assign 19 = .ok (.getfield 15, 3) := by decide +kernel
theorem dX9_assign_22 : decode cX9_assign 22 = .ok (.if_icmp .gt 4, 3) := by decide +kernel
theorem dX9_assign_25 : decode cX9_assign 25 = .ok (.return_, 1) := by decide +kernel
theorem dX9_assign_26 : decode cX9_assign 26 = .ok (.iload_n 2, 1) := by decide +kernel
theorem dX9_assign_27 : decode cX9_assign 27 = .ok (.aload_n 1, 1) := by decide +kernel
theorem dX9_assign_28 : decode cX9_assign 28 = .ok (.getfield 56, 3) := by decide +kernel
theorem dX9_assign_31 : decode cX9_assign 31 = .ok (.if_icmp .ge 9, 3) := by decide +kernel
theorem dX9_assign_34 : decode cX9_assign 34 = .ok (.iload_n 2, 1) := by decide +kernel
theorem dX9_assign_35 : decode cX9_assign 35 = .ok (.bipush 6, 2) := by decide +kernel
theorem dX9_assign_37 : decode cX9_assign 37 = .ok (.if_icmp .lt 24, 3) := by decide +kernel
theorem dX9_assign_40 : decode cX9_assign 40 = .ok (.aload_n 0, 1) := by decide +kernel
theorem dX9_assign_41 : decode cX9_assign 41 = .ok (.iload_n 3, 1) := by decide +kernel
theorem dX9_assign_42 : decode cX9_assign 42 = .ok (.putfield 15, 3) := by decide +kernel
theorem dX9_assign_45 : decode cX9_assign 45 = .ok (.aload_n 0, 1) := by decide +kernel
theorem dX9_assign_46 : decode cX9_assign 46 = .ok (.getfield 19, 3) := by decide +kernel
theorem dX9_assign_49 : decode cX9_assign 49 = .ok (.iconst 0, 1) := by decide +kernel
theorem dX9_assign_50 : decode cX9_assign 50 = .ok (.aload_n 0, 1) := by decide +kernel
theorem dX9_assign_51 : decode cX9_assign 51 = .ok (.getfield 9, 3) := by decide +kernel
theorem dX9_assign_54 : decode cX9_assign 54 = .ok (.iconst 0, 1) := by decide +kernel
theorem dX9_assign_55 : decode cX9_assign 55 = .ok (.bipush 6, 2) := by decide +kernel
theorem dX9_assign_57 : decode cX9_assign 57 = .ok (.invokestatic 78, 3) := by decide +kernel
theorem dX9_assign_60 : decode cX9_assign 60 = .ok (.return_, 1) := by decide +kernel
theorem dX9_assign_61 : decode cX9_assign 61 = .ok (.iconst 0, 1) := by decide +kernel
theorem dX9_assign_62 : decode cX9_assign 62 = .ok (.istore 4, 2) := by decide +kernel
theorem dX9_assign_64 : decode cX9_assign 64 = .ok (.iload 4, 2) := by decide +kernel
theorem dX9_assign_66 : decode cX9_assign 66 = .ok (.aload_n 1, 1) := by decide +kernel
theorem dX9_assign_67 : decode cX9_assign 67 = .ok (.getfield 84, 3) := by decide +kernel
theorem dX9_assign_70 : decode cX9_assign 70 = .ok (.getfield 88, 3) := by decide +kernel
theorem dX9_assign_73 : decode cX9_assign 73 = .ok (.if_icmp .ge 103, 3) := by decide +kernel
theorem dX9_assign_76 : decode cX9_assign 76 = .ok (.iload 4, 2) := by decide +kernel
theorem dX9_assign_78 : decode cX9_assign 78 = .ok (.bipush 6, 2) := by decide +kernel
theorem dX9_assign_80 : decode cX9_assign 80 = .ok (.if_icmp .ge 96, 3) := by decide +kernel
theorem dX9_assign_83 : decode cX9_assign 83 = .ok (.aload_n 0, 1) := by decide +kernel
theorem dX9_assign_84 : decode cX9_assign 84 = .ok (.getfield 29, 3) := by decide +kernel
theorem dX9_assign_87 : decode cX9_assign 87 = .ok (.iload 4, 2) := by decide +kernel
theorem dX9_assign_89 : decode cX9_assign 89 = .ok (.iaload, 1) := by decide +kernel
theorem dX9_assign_90 : decode cX9_assign 90 = .ok (.iconst 1, 1) := by decide +kernel
theorem dX9_assign_91 : decode cX9_assign 91 = .ok (.iload_n 2, 1) := by decide +kernel
theorem dX9_assign_92 : decode cX9_assign 92 = .ok (.ishl, 1) := by decide +kernel
theorem dX9_assign_93 : decode cX9_assign 93 = .ok (.ior, 1) := by decide +kernel
theorem dX9_assign_94 : decode cX9_assign 94 = .ok (.istore 5, 2) := by decide +kernel
theorem dX9_assign_96 : decode cX9_assign 96 = .ok (.aload_n 1, 1) := by decide +kernel
theorem dX9_assign_97 : decode cX9_assign 97 = .ok (.iload 4, 2) := by decide +kernel
theorem dX9_assign_99 : decode cX9_assign 99 = .ok (.invokevirtual 93, 3) := by decide +kernel
theorem dX9_assign_102 : decode cX9_assign 102 = .ok (.iconst (-1), 1) := by decide +kernel
theorem dX9_assign_103 : decode cX9_assign 103 = .ok (.if_icmp .eq 67, 3) := by decide +kernel
theorem dX9_assign_106 : decode cX9_assign 106 = .ok (.aload_n 0, 1) := by decide +kernel
theorem dX9_assign_107 : decode cX9_assign 107 = .ok (.getfield 25, 3) := by decide +kernel
theorem dX9_assign_110 : decode cX9_assign 110 = .ok (.iload 4, 2) := by decide +kernel
theorem dX9_assign_112 : decode cX9_assign 112 = .ok (.bipush 64, 2) := by decide +kernel
theorem dX9_assign_114 : decode cX9_assign 114 = .ok (.imul, 1) := by decide +kernel
theorem dX9_assign_115 : decode cX9_assign 115 = .ok (.iload 5, 2) := by decide +kernel
theorem dX9_assign_117 : decode cX9_assign 117 = .ok (.iadd, 1) := by decide +kernel
theorem dX9_assign_118 : decode cX9_assign 118 = .ok (.baload, 1) := by decide +kernel
theorem dX9_assign_119 : decode cX9_assign 119 = .ok (.ifCond .eq 51, 3) := by decide +kernel
theorem dX9_assign_122 : decode cX9_assign 122 = .ok (.aload_n 0, 1) := by decide +kernel
theorem dX9_assign_123 : decode cX9_assign 123 = .ok (.getfield 29, 3) := by decide +kernel
theorem dX9_assign_126 : decode cX9_assign 126 = .ok (.iload 4, 2) := by decide +kernel
theorem dX9_assign_128 : decode cX9_assign 128 = .ok (.iload 5, 2) := by decide +kernel
theorem dX9_assign_130 : decode cX9_assign 130 = .ok (.iastore, 1) := by decide +kernel
theorem dX9_assign_131 : decode cX9_assign 131 = .ok (.aload_n 0, 1) := by decide +kernel
theorem dX9_assign_132 : decode cX9_assign 132 = .ok (.getfield 19, 3) := by decide +kernel
theorem dX9_assign_135 : decode cX9_assign 135 = .ok (.iload_n 2, 1) := by decide +kernel
theorem dX9_assign_136 : decode cX9_assign 136 = .ok (.iload 4, 2) := by decide +kernel
theorem dX9_assign_138 : decode cX9_assign 138 = .ok (.iastore, 1) := by decide +kernel
theorem dX9_assign_139 : decode cX9_assign 139 = .ok (.aload_n 0, 1) := by decide +kernel
theorem dX9_assign_140 : decode cX9_assign 140 = .ok (.aload_n 1, 1) := by decide +kernel
theorem dX9_assign_141 : decode cX9_assign 141 = .ok (.iload_n 2, 1) := by decide +kernel
theorem dX9_assign_142 : decode cX9_assign 142 = .ok (.iconst 1, 1) := by decide +kernel
theorem dX9_assign_143 : decode cX9_assign 143 = .ok (.iadd, 1) := by decide +kernel
theorem dX9_assign_144 : decode cX9_assign 144 = .ok (.iload_n 3, 1) := by decide +kernel
theorem dX9_assign_145 : decode cX9_assign 145 = .ok (.aload_n 1, 1) := by decide +kernel
theorem dX9_assign_146 : decode cX9_assign 146 = .ok (.getfield 75, 3) := by decide +kernel
theorem dX9_assign_149 : decode cX9_assign 149 = .ok (.iload_n 2, 1) := by decide +kernel
theorem dX9_assign_150 : decode cX9_assign 150 = .ok (.iaload, 1) := by decide +kernel
theorem dX9_assign_151 : decode cX9_assign 151 = .ok (.iadd, 1) := by decide +kernel
theorem dX9_assign_152 : decode cX9_assign 152 = .ok (.invokevirtual 52, 3) := by decide +kernel
theorem dX9_assign_155 : decode cX9_assign 155 = .ok (.aload_n 0, 1) := by decide +kernel
theorem dX9_assign_156 : decode cX9_assign 156 = .ok (.getfield 29, 3) := by decide +kernel
theorem dX9_assign_159 : decode cX9_assign 159 = .ok (.iload 4, 2) := by decide +kernel
theorem dX9_assign_161 : decode cX9_assign 161 = .ok (.iload 5, 2) := by decide +kernel
theorem dX9_assign_163 : decode cX9_assign 163 = .ok (.iconst 1, 1) := by decide +kernel
theorem dX9_assign_164 : decode cX9_assign 164 = .ok (.iload_n 2, 1) := by decide +kernel
theorem dX9_assign_165 : decode cX9_assign 165 = .ok (.ishl, 1) := by decide +kernel
theorem dX9_assign_166 : decode cX9_assign 166 = .ok (.iconst (-1), 1) := by decide +kernel
theorem dX9_assign_167 : decode cX9_assign 167 = .ok (.ixor, 1) := by decide +kernel
theorem dX9_assign_168 : decode cX9_assign 168 = .ok (.iand, 1) := by decide +kernel
theorem dX9_assign_169 : decode cX9_assign 169 = .ok (.iastore, 1) := by decide +kernel
theorem dX9_assign_170 : decode cX9_assign 170 = .ok (.iinc 4 1, 3) := by decide +kernel
theorem dX9_assign_173 : decode cX9_assign 173 = .ok (.goto (-109), 3) := by decide +kernel
theorem dX9_assign_176 : decode cX9_assign 176 = .ok (.aload_n 0, 1) := by decide +kernel
theorem dX9_assign_177 : decode cX9_assign 177 = .ok (.getfield 19, 3) := by decide +kernel
theorem dX9_assign_180 : decode cX9_assign 180 = .ok (.iload_n 2, 1) := by decide +kernel
theorem dX9_assign_181 : decode cX9_assign 181 = .ok (.bipush 6, 2) := by decide +kernel
theorem dX9_assign_183 : decode cX9_assign 183 = .ok (.iastore, 1) := by decide +kernel
theorem dX9_assign_184 : decode cX9_assign 184 = .ok (.aload_n 0, 1) := by decide +kernel
theorem dX9_assign_185 : decode cX9_assign 185 = .ok (.aload_n 1, 1) := by decide +kernel
theorem dX9_assign_186 : decode cX9_assign 186 = .ok (.iload_n 2, 1) := by decide +kernel
theorem dX9_assign_187 : decode cX9_assign 187 = .ok (.iconst 1, 1) := by decide +kernel
theorem dX9_assign_188 : decode cX9_assign 188 = .ok (.iadd, 1) := by decide +kernel
theorem dX9_assign_189 : decode cX9_assign 189 = .ok (.iload_n 3, 1) := by decide +kernel
theorem dX9_assign_190 : decode cX9_assign 190 = .ok (.invokevirtual 52, 3) := by decide +kernel
theorem dX9_assign_193 : decode cX9_assign 193 = .ok (.return_, 1) := by decide +kernel
set_option maxRecDepth 20000 in
theorem tm_9_52 : tMet TB0 9 52 = some (0, M_X9_assign) := rfl
set_option maxRecDepth 20000 in
theorem tm_9_78 : tMet TB0 9 78 = some (5, M_none) := rfl
set_option maxRecDepth 20000 in
theorem tm_9_93 : tMet TB0 9 93 = some (0, M_X2_upOf) := rfl
/-- the class's rows below a prefix: who has what so far -/
def asS (h : mH) (y : Nat) (w : Int → Int) (n : Int) : Prop := (∀ d : Int, 0 ≤ d → d < 6 → (0 ≤ rI h (y + 5) d ∧ rI h (y + 5) d < 64) ∧ ∀ o, 0 ≤ o → o < 6 → (hasZ (rI h (y + 5) d) o ↔ o < n ∧ w o = d)) ∧ ∀ c : Int, 0 ≤ c → c < n → rI h (y + 2) c = w c
theorem asS_c {S : Nat → Nat → Prop} {h h1 : mH} {y : Nat} {w : Int → Int} {n : Int} (f : frm S h h1) (z : ∀ a k, a = y + 5 ∨ a = y + 2 → ¬ S a k) (H : asS h y w n) : asS h1 y w n := ⟨fun d a b => by rw [frm_r f (z _ _ (Or.inl rfl))]; exact H.1 d a b, fun c a b => (frm_r f (z _ _ (Or.inr rfl))).trans (H.2 c a b)⟩
def bsS (h : mH) (y : Nat) (g : Int → Int) (v : Int) : Prop := ((v = -1 ∧ rI h y 1 = -1) ∨ (v ≠ -1 ∧ rI h y 1 = suW g v)) ∧ (v ≠ -1 → ∀ c : Int, 0 ≤ c → c < nc g → rI h (y + 1) c = dgZ v c)
theorem bsS_c {S : Nat → Nat → Prop} {h h1 : mH} {y : Nat} {g : Int → Int} {v : Int} (f : frm S h h1) (z : ∀ a k, (a = y ∧ k = 1) ∨ a = y + 1 → ¬ S a k) (H : bsS h y g v) : bsS h1 y g v := ⟨by rw [frm_r f (z _ _ (by omega))]; exact H.1, fun n c a b => (frm_r f (z _ _ (by omega))).trans (H.2 n c a b)⟩
theorem bsS_b {h : mH} {y : Nat} {g : Int → Int} {v : Int} (w : wfC g) (H : bsS h y g v) : (-1 ≤ rI h y 1 ∧ rI h y 1 ≤ 120) ∧ ((v = -1 ∧ rI h y 1 = -1) ∨ (v ≠ -1 ∧ rI h y 1 = suW g v)) := by
  have := suW_b w v
  have q := H.1
  exact ⟨by omega, q⟩
/-- one more who works -/
theorem asS_y {h h1 : mH} {y : Nat} {w : Int → Int} {c d S : Int} (H : asS h y w c) (c0 : 0 ≤ c) (c1 : c < 6) (hd : 0 ≤ d ∧ d < 6) (eS : S = orZ (rI h (y + 5) d) (shlZ 1 c)) (t1 : rI h1 (y + 5) d = S) (t2 : ∀ e, 0 ≤ e → e < 6 → e ≠ d → rI h1 (y + 5) e = rI h (y + 5) e) (r1 : rI h1 (y + 2) c = d) (r2 : ∀ e, 0 ≤ e → e < c → rI h1 (y + 2) e = rI h (y + 2) e) : asS h1 y (setG w c d) (c + 1) := by
  refine ⟨fun e a b => ?_, fun x a b => ?_⟩
  · have q := H.1 e a b
    by_cases z : e = d
    · subst z
      rw [t1, eS]
      refine ⟨or_b q.1.2 c1, fun o u v => ?_⟩
      rw [or1_has c0 u, q.2 o u v]
      unfold setG
      by_cases y2 : o = c
      · rw [if_pos y2]; exact ⟨fun _ => ⟨by omega, rfl⟩, fun _ => Or.inr y2⟩
      · rw [if_neg y2]; exact ⟨fun z => ⟨by omega, (z.resolve_right y2).2⟩, fun z => Or.inl ⟨by omega, z.2⟩⟩
    · rw [t2 e a b z]
      refine ⟨q.1, fun o u v => ?_⟩
      rw [q.2 o u v]
      unfold setG
      by_cases y2 : o = c
      · rw [if_pos y2]; exact ⟨fun z => by omega, fun w => absurd w.2.symm z⟩
      · rw [if_neg y2]; exact ⟨fun z => ⟨by omega, z.2⟩, fun z => ⟨by omega, z.2⟩⟩
  · unfold setG
    by_cases z : x = c
    · rw [if_pos z, z]; exact r1
    · rw [if_neg z, r2 x a (by omega)]; exact H.2 x a (by omega)
theorem asS_h {h : mH} {y : Nat} {w : Int → Int} {c d : Int} (H : asS h y w c) (c0 : 0 ≤ c) (hd : 0 ≤ d ∧ d < 6) : ∀ o, 0 ≤ o → o < 6 → (hasZ (orZ (rI h (y + 5) d) (shlZ 1 c)) o ↔ (o < c ∧ w o = d) ∨ o = c) := fun o u v => by rw [or1_has c0 u, (H.1 d hd.1 hd.2).2 o u v]
/-- and he is free again -/
theorem asS_z {h h1 : mH} {y : Nat} {w : Int → Int} {c d S : Int} (H : asS h y (setG w c d) (c + 1)) (c0 : 0 ≤ c) (c1 : c < 6) (hd : 0 ≤ d ∧ d < 6) (hS : ∀ o, 0 ≤ o → o < 6 → (hasZ S o ↔ (o < c ∧ w o = d) ∨ o = c)) (hb : 0 ≤ S ∧ S < 64) (t1 : rI h1 (y + 5) d = subS S (shlZ 1 c)) (t2 : ∀ e, 0 ≤ e → e < 6 → e ≠ d → rI h1 (y + 5) e = rI h (y + 5) e) (r2 : ∀ e, 0 ≤ e → e < c → rI h1 (y + 2) e = rI h (y + 2) e) : asS h1 y w c := by
  have cb := b1_b c1
  refine ⟨fun e a b => ?_, fun x a b => ?_⟩
  · by_cases z : e = d
    · subst z
      have sb := subS_b S (shlZ 1 c)
      rw [t1]
      refine ⟨⟨sb.1, by omega⟩, fun o u v => ?_⟩
      rw [subS_h hb (show 0 ≤ shlZ 1 c ∧ shlZ 1 c < 64 from ⟨by have : 1 ≤ shlZ 1 c := cb.1; omega, cb.2⟩) u v, hS o u v, show shlZ 1 c = b1 c from rfl, has_b1 c0 u]
      constructor
      · rintro ⟨q1, q2⟩; exact q1.resolve_right q2
      · intro q; exact ⟨Or.inl q, by omega⟩
    · have q := H.1 e a b
      rw [t2 e a b z]
      refine ⟨q.1, fun o u v => ?_⟩
      rw [q.2 o u v]
      unfold setG
      by_cases y2 : o = c
      · rw [if_pos y2]; exact ⟨fun w => absurd w.2.symm z, fun w => by omega⟩
      · rw [if_neg y2]; exact ⟨fun z => ⟨by omega, z.2⟩, fun z => ⟨by omega, z.2⟩⟩
  · rw [r2 x a b, H.2 x a (by omega)]
    exact if_neg (by omega)
theorem asS_6 {h h1 : mH} {y : Nat} {w : Int → Int} {c : Int} (H : asS h y w c) (c0 : 0 ≤ c) (t : ∀ e, 0 ≤ e → e < 6 → rI h1 (y + 5) e = rI h (y + 5) e) (r1 : rI h1 (y + 2) c = 6) (r2 : ∀ e, 0 ≤ e → e < c → rI h1 (y + 2) e = rI h (y + 2) e) : asS h1 y (setG w c 6) (c + 1) := by
  refine ⟨fun e a b => ?_, fun x a b => ?_⟩
  · have q := H.1 e a b
    rw [t e a b]
    refine ⟨q.1, fun o u v => ?_⟩
    rw [q.2 o u v]
    unfold setG
    by_cases y2 : o = c
    · rw [if_pos y2]; exact ⟨fun z => by omega, fun w => by omega⟩
    · rw [if_neg y2]; exact ⟨fun z => ⟨by omega, z.2⟩, fun z => ⟨by omega, z.2⟩⟩
  · unfold setG
    by_cases z : x = c
    · rw [if_pos z, z]; exact r1
    · rw [if_neg z, r2 x a (by omega)]; exact H.2 x a (by omega)
theorem asS_q {h : mH} {y : Nat} {w : Int → Int} {c : Int} (H : asS h y (setG w c 6) (c + 1)) (c0 : 0 ≤ c) : asS h y w c := by
  refine ⟨fun e a b => ?_, fun x a b => ?_⟩
  · have q := H.1 e a b
    refine ⟨q.1, fun o u v => ?_⟩
    rw [q.2 o u v]
    unfold setG
    by_cases y2 : o = c
    · rw [if_pos y2]; exact ⟨fun z => by omega, fun w => by omega⟩
    · rw [if_neg y2]; exact ⟨fun z => ⟨by omega, z.2⟩, fun z => ⟨by omega, z.2⟩⟩
  · rw [H.2 x a (by omega)]
    exact if_neg (by omega)
/-- all that a call of assign is told -/
def asP (g w : Int → Int) (c s v : Int) : Prop := (∀ x, 0 ≤ x → x < c → okD g w x) ∧ s = suV g w c ∧ fmax (vaW g) (suW g) (cdZ w c) v
def asE (h : mH) (y : Nat) (g : Int → Int) (N : Int) : Prop := ∃ v, fmax (vaW g) (suW g) N v ∧ bsS h y g v
theorem asP_b {g w : Int → Int} {c s v : Int} (wc : wfC g) (c0 : 0 ≤ c) (c1 : c ≤ nc g) (H : asP g w c s v) : 0 ≤ s ∧ s ≤ 120 := by
  have := suV_b (w := w) wc c0 c1
  have q := H.2.1
  have := wc.1
  omega
theorem asP_prune {h : mH} {y : Nat} {g w : Int → Int} {c s v : Int} (wf : wfF g) (c0 : 0 ≤ c) (c1 : c ≤ nc g) (H : asP g w c s v) (U : abU h y g) (B : bsS h y g v) (q : s + rI h (y + 6) c ≤ rI h y 1) : asE h y g (cdZ w c + scZ c) := by
  have hn := wf.1.1
  have wn := wf.2.2.1
  have sb := asP_b wf.2.2 c0 c1 H
  have ub := abU_b U c0 (show c ≤ 6 by omega)
  have s6 := sc_b c0 (show c ≤ 6 by omega)
  have vn : v ≠ -1 := fun e => by rcases B.1 with z | z <;> omega
  have bv : rI h y 1 = suW g v := by rcases B.1 with z | z; exact absurd z.1 vn; exact z.2
  refine ⟨v, fmax_dom H.2.2 (by omega) vn (fun k a b p => ?_), B⟩
  have := as_ub wf.2.2 hn.2 wn.2 U c0 c1 (okD_bs hn.2 H.1) a b p
  have e := H.2.1
  omega
theorem asP_leaf {h h1 : mH} {y : Nat} {g w : Int → Int} {c s v : Int} (wf : wfF g) (c0 : 0 ≤ c) (e : c = nc g) (H : asP g w c s v) (U : abU h y g) (B : bsS h y g v) (A : asS h y w c) (q : rI h y 1 < s + rI h (y + 6) c) (b1 : rI h1 y 1 = s) (b2 : ∀ x, 0 ≤ x → x < 6 → rI h1 (y + 1) x = rI h (y + 2) x) : asE h1 y g (cdZ w c + scZ c) := by
  have hn := wf.1.1
  have wn := wf.2.2.1
  subst e
  have s6 := sc_b wn.1 wn.2
  have u0 : rI h (y + 6) (nc g) = 0 := by
    have z : ∀ x : Nat, nc g + x ≤ 6 → rI h (y + 6) (nc g) = rI h (y + 6) (nc g + x) := by
      intro x
      induction x with
      | zero => intro _; rw [show nc g + ((0 : Nat) : Int) = nc g by omega]
      | succ x ih =>
        intro hx
        rw [ih (by omega)]
        have st : stpA g (fun x => rI h (y + 6) x) (nc g + x) := U.2.1 (nc g + x) (by omega) (by omega) (by omega)
        rcases st with t | t
        · omega
        · rw [show nc g + ((x + 1 : Nat) : Int) = nc g + x + 1 by omega]; exact t.1
    rw [z (6 - nc g).toNat (by omega), show nc g + ((6 - nc g).toNat : Int) = 6 by omega]
    exact U.1
  obtain ⟨l1, l2⟩ := va_leaf wn.1 wn.2 (okD_bs hn.2 H.1) H.1
  have cb := cd_b (w := w) wn.1 wn.2 (okD_bs hn.2 H.1)
  have hs := H.2.1
  have f1 : fmax (vaW g) (suW g) (cdZ w (nc g) + 1) (cdZ w (nc g)) := fmax_new H.2.2 cb.1 l1 (by rw [l2]; rcases B.1 with z | z; exact Or.inl z.1; exact Or.inr (by omega))
  refine ⟨cdZ w (nc g), fmax_skip f1 (by omega) (fun k a b p => by
    have := cd_one wn.1 wn.2 (show cdZ w (nc g) ≤ k by omega) b p.1
    omega), Or.inr ⟨by omega, by rw [l2, b1]; exact hs⟩, fun _ x a b => ?_⟩
  rw [b2 x a (by omega), A.2 x a b, dg_in wn.1 wn.2 (okD_bs hn.2 H.1) (by omega) (by omega) a b]
theorem asP_in {g w : Int → Int} {c s v d N : Int} (c0 : 0 ≤ c) (H : asP g w c s v) {u : Int} (f : fmax (vaW g) (suW g) N u) (e : N = cdZ w c + d * scZ (c + 1)) (ok : okD g (setG w c d) c) (s' : Int) (es : s' = s + if d < 6 then pr g c else 0) : asP g (setG w c d) (c + 1) s' u := by
  refine ⟨fun x a b => ?_, ?_, by rw [cd_set c0, ← e]; exact f⟩
  · by_cases q : x = c
    · rw [q]; exact ok
    · exact okD_e a (fun o u z => (if_neg (by omega)).symm) (H.1 x a (by omega))
  · rw [suV_s c0, suV_e (w := setG w c d) (w' := w) (fun x a e => if_neg (by omega)), es, H.2.1, show setG w c d c = d from if_pos rfl]
theorem asP_sk {g w : Int → Int} {c s v d u N N' : Int} (hn : nd g ≤ 6) (h6 : nc g ≤ 6) (c0 : 0 ≤ c) (c1 : c < nc g) (hd : 0 ≤ d ∧ d ≤ 6) (H : asP g w c s v) (f : fmax (vaW g) (suW g) N u) (e : N = cdZ w c + d * scZ (c + 1)) (e' : N' = N + scZ (c + 1)) (no : ¬ okD g (setG w c d) c) : fmax (vaW g) (suW g) N' u := by
  have sb := sc_b (n := c + 1) (by omega) (by omega)
  subst e'
  refine fmax_skip f (by omega) (fun k a b p => no ?_)
  have ec := cd_set (w := w) (n := c) (d := d) c0
  exact va_pre (g := g) (w := setG w c d) (n := c + 1) (by omega) (by omega) h6 (fun x u v => by
    unfold setG
    by_cases q : x = c
    · rw [if_pos q]; exact hd
    · rw [if_neg q]; exact okD_b hn (H.1 x u (by omega))) (by omega) (by omega) p c0 (by omega)
theorem no_hi {g w : Int → Int} {c d : Int} (h : nd g ≤ d) (h6 : d < 6) : ¬ okD g (setG w c d) c := by
  have e : setG w c d c = d := if_pos rfl
  unfold okD
  rw [e]
  rintro (q | ⟨q1, _⟩) <;> omega
/-- those who aren't there -/
theorem asP_hi {g w : Int → Int} {c s v : Int} (hn : 0 ≤ nd g ∧ nd g ≤ 6) (h6 : nc g ≤ 6) (c0 : 0 ≤ c) (c1 : c < nc g) (H : asP g w c s v) {u : Int} : ∀ (m : Nat) (d : Int), 6 - d = m → nd g ≤ d → fmax (vaW g) (suW g) (cdZ w c + d * scZ (c + 1)) u → fmax (vaW g) (suW g) (cdZ w c + 6 * scZ (c + 1)) u := by
  intro m
  induction m with
  | zero => intro d e _ f; rw [show (6 : Int) = d by omega]; exact f
  | succ m ih =>
    intro d e hd f
    refine ih (d + 1) (by omega) (by omega) ?_
    exact asP_sk hn.2 h6 c0 c1 ⟨by omega, by omega⟩ H f rfl (by rw [Int.add_mul, Int.one_mul]; omega) (no_hi hd (by omega))
set_option maxHeartbeats 4000000 in
theorem zp_X9_assign_6 {ad : mA} {dd : Nat} {h : mH} {Q : mQ} {y f : Nat} {g w : Int → Int} {v : Int} (hk : wkk h y) (hk1 : fgk h f) (HF : isF h f g) (HT : mgT h y g) (HU : abU h y g) (HA : asS h y w 6) (HV : bsS h y g v)  (s : Int) (s_r : -2147483648 ≤ s ∧ s < 2147483648) (pn : (6 : Int) ≤ nc g) (pa : asP g w 6 s v) (pf : y + 7 ≤ f ∨ f + 16 ≤ y) (kq : ∀ h1, frm (fun a k => (a = y ∧ k = 1) ∨ a = y + 1 ∨ a = y + 2 ∨ a = y + 5) h h1 → (asE h1 y g (cdZ w 6 + scZ 6)) → (asS h1 y w 6) → Q none h1) : mCal TB0 ad (dd + 3) M_X9_assign [.ref y, .ref f, .int (zI 6), .int (zI s)] h 0 0 Q := by
  refine ⟨Nat.le_of_ble_eq_true rfl, ?_⟩
  show mEv TB0 ad M_X9_assign (dd + 3) (0, 0) (mCal TB0 ad (dd + 2)) (fun v h' z => z.1 = 0 ∧ Q v h') 0 [some (.ref y), some (.ref f), some (.int (zI 6)), some (.int (zI s)), none, none] [] h (0, 0)
  have FR0 : frm (fun a k => (a = y ∧ k = 1) ∨ a = y + 1 ∨ a = y + 2 ∨ a = y + 5) h h := frm_0 h
  have w1 := isF_n HF
  have w2 := isF_nd HF
  have w3 := isF_nu HF
  have w4 := isF_nc HF
  have W := isF_w HF
  have wf := isF_w HF
  have sb := asP_b W.2.2 (by omega) pn pa
  have ub := abU_b HU (c := 6) (by omega) (by omega)
  have bb := bsS_b W.2.2 HV
  refine e_iload_n dX9_assign_0 rfl ?_
  refine z_if_lt 25 dX9_assign_1 rfl ⟨by omega, by omega⟩ (fun c1 => ?_) (fun c1 => ?_)
  · exfalso; omega
  · skip
    refine e_iload_n dX9_assign_4 rfl ?_
    refine z_bipush (6) dX9_assign_5 rfl ?_
    refine z_icmp_gt 25 dX9_assign_7 rfl ⟨by omega, by omega⟩ ⟨by omega, by omega⟩ (fun c2 => ?_) (fun c2 => ?_)
    · exfalso; omega
    · skip
      refine e_iload_n dX9_assign_10 rfl ?_
      refine e_aload_n dX9_assign_11 rfl ?_
      refine e_get (.ref (y + 6)) dX9_assign_12 tf_9_32 (congrArg Prod.fst (wk_s0 hk)) (congrArg va_rf (wk_r0_6 hk)) ?_
      refine e_iload_n dX9_assign_15 rfl ?_
      refine z_ild (rI h (y + 6) 6) dX9_assign_16 (wk_s6 hk) (by decide) (by omega) (by omega) rfl ?_
      refine z_iadd dX9_assign_17 ?_
      refine e_aload_n dX9_assign_18 rfl ?_
      refine z_get (rI h y 1) dX9_assign_19 tf_9_15 (congrArg Prod.fst (wk_s0 hk)) (Or.inl rfl) rfl ?_
      refine z_icmp_gt 26 dX9_assign_22 rfl ⟨by omega, by omega⟩ ⟨by omega, by omega⟩ (fun c3 => ?_) (fun c3 => ?_)
      · skip
        refine e_iload_n dX9_assign_26 rfl ?_
        refine e_aload_n dX9_assign_27 rfl ?_
        refine z_get (nc g) dX9_assign_28 tf_9_56 (congrArg Prod.fst (fg_s0 hk1)) (Or.inl rfl) (isF_nc HF) ?_
        have y4 := isF_n HF
        refine z_icmp_ge 40 dX9_assign_31 rfl ⟨by omega, by omega⟩ ⟨by omega, by omega⟩ (fun c5 => ?_) (fun c5 => ?_)
        · skip
          skip
          refine e_aload_n dX9_assign_40 rfl ?_
          refine e_iload_n dX9_assign_41 rfl ?_
          refine z_put dX9_assign_42 tf_9_15 (congrArg Prod.fst (wk_s0 hk)) rfl (Or.inl rfl) (fun h6 e7 => ?_)
          have f8 := frm_1 e7
          have k9 := lk_q (frm_s f8) hk
          have k10 := lk_q (frm_s f8) hk1
          have H11 := isF_c f8 (fun a k q1 q2 => by omega) HF
          have H12 := mgT_c f8 (fun a k q => by omega) HT
          have H13 := abU_c f8 (fun a k q => by omega) HU
          have H14 := asS_c f8 (fun a k q => by omega) HA
          have FR15 := frm_t FR0 (frm_m (S' := (fun a k => (a = y ∧ k = 1) ∨ a = y + 1 ∨ a = y + 2 ∨ a = y + 5)) f8 (fun a k q => by omega))
          refine e_aload_n dX9_assign_45 rfl ?_
          refine e_get (.ref (y + 2)) dX9_assign_46 tf_9_19 (congrArg Prod.fst (wk_s0 k9)) (congrArg va_rf (wk_r0_2 k9)) ?_
          refine z_iconst (0) dX9_assign_49 rfl ?_
          refine e_aload_n dX9_assign_50 rfl ?_
          refine e_get (.ref (y + 1)) dX9_assign_51 tf_9_9 (congrArg Prod.fst (wk_s0 k9)) (congrArg va_rf (wk_r0_0 k9)) ?_
          refine z_iconst (0) dX9_assign_54 rfl ?_
          refine z_bipush (6) dX9_assign_55 rfl ?_
          refine z_cpy dX9_assign_57 tm_9_78 (Nat.le_of_ble_eq_true rfl) (wk_s1 k9) (wk_s2 k9) (by decide) (by decide) (by omega) (by omega) (by omega) (by omega) (by omega) (fun h16 f17 e18 => ?_)
          have k19 := lk_q (frm_s f17) k9
          have k20 := lk_q (frm_s f17) k10
          have H21 := isF_c f17 (fun a k q1 q2 => by omega) H11
          have H22 := mgT_c f17 (fun a k q => by omega) H12
          have H23 := abU_c f17 (fun a k q => by omega) H13
          have H24 := asS_c f17 (fun a k q => by omega) H14
          have FR25 := frm_t FR15 (frm_m (S' := (fun a k => (a = y ∧ k = 1) ∨ a = y + 1 ∨ a = y + 2 ∨ a = y + 5)) f17 (fun a k q => by omega))
          refine e_vret dX9_assign_60 rfl ⟨rfl, ?_⟩
          have B2 : ∀ x : Int, 0 ≤ x → x < 6 → rI h16 (y + 1) x = rI h (y + 2) x := fun x a b => ((cpy6 e18 a b)).trans ((frm_r f8 (by omega)))
          exact kq _ FR25 (asP_leaf wf (by omega) (by omega) pa HU HV HA (by omega) (show rI h16 y 1 = s from ((frm_r f17 (by omega)).trans (rI_eq e7 ⟨by omega, by omega⟩))) B2) H24
        · exfalso; omega
      · skip
        skip
        refine e_vret dX9_assign_25 rfl ⟨rfl, ?_⟩
        exact kq _ FR0 (asP_prune wf (by omega) pn pa HU HV (by omega)) HA
set_option maxHeartbeats 4000000 in
theorem zp_X9_assign_5 {ad : mA} {dd : Nat} {h : mH} {Q : mQ} {y f : Nat} {g w : Int → Int} {v : Int} (hk : wkk h y) (hk1 : fgk h f) (HF : isF h f g) (HT : mgT h y g) (HU : abU h y g) (HA : asS h y w 5) (HV : bsS h y g v)  (s : Int) (s_r : -2147483648 ≤ s ∧ s < 2147483648) (pn : (5 : Int) ≤ nc g) (pa : asP g w 5 s v) (pf : y + 7 ≤ f ∨ f + 16 ≤ y) (kq : ∀ h1, frm (fun a k => (a = y ∧ k = 1) ∨ a = y + 1 ∨ a = y + 2 ∨ a = y + 5) h h1 → (asE h1 y g (cdZ w 5 + scZ 5)) → (asS h1 y w 5) → Q none h1) : mCal TB0 ad (dd + 4) M_X9_assign [.ref y, .ref f, .int (zI 5), .int (zI s)] h 0 0 Q := by
  refine ⟨Nat.le_of_ble_eq_true rfl, ?_⟩
  show mEv TB0 ad M_X9_assign (dd + 4) (0, 0) (mCal TB0 ad (dd + 3)) (fun v h' z => z.1 = 0 ∧ Q v h') 0 [some (.ref y), some (.ref f), some (.int (zI 5)), some (.int (zI s)), none, none] [] h (0, 0)
  have FR0 : frm (fun a k => (a = y ∧ k = 1) ∨ a = y + 1 ∨ a = y + 2 ∨ a = y + 5) h h := frm_0 h
  have w1 := isF_n HF
  have w2 := isF_nd HF
  have w3 := isF_nu HF
  have w4 := isF_nc HF
  have W := isF_w HF
  have wf := isF_w HF
  have sb := asP_b W.2.2 (by omega) pn pa
  have ub := abU_b HU (c := 5) (by omega) (by omega)
  have bb := bsS_b W.2.2 HV
  refine e_iload_n dX9_assign_0 rfl ?_
  refine z_if_lt 25 dX9_assign_1 rfl ⟨by omega, by omega⟩ (fun c1 => ?_) (fun c1 => ?_)
  · exfalso; omega
  · skip
    refine e_iload_n dX9_assign_4 rfl ?_
    refine z_bipush (6) dX9_assign_5 rfl ?_
    refine z_icmp_gt 25 dX9_assign_7 rfl ⟨by omega, by omega⟩ ⟨by omega, by omega⟩ (fun c2 => ?_) (fun c2 => ?_)
    · exfalso; omega
    · skip
      refine e_iload_n dX9_assign_10 rfl ?_
      refine e_aload_n dX9_assign_11 rfl ?_
      refine e_get (.ref (y + 6)) dX9_assign_12 tf_9_32 (congrArg Prod.fst (wk_s0 hk)) (congrArg va_rf (wk_r0_6 hk)) ?_
      refine e_iload_n dX9_assign_15 rfl ?_
      refine z_ild (rI h (y + 6) 5) dX9_assign_16 (wk_s6 hk) (by decide) (by omega) (by omega) rfl ?_
      refine z_iadd dX9_assign_17 ?_
      refine e_aload_n dX9_assign_18 rfl ?_
      refine z_get (rI h y 1) dX9_assign_19 tf_9_15 (congrArg Prod.fst (wk_s0 hk)) (Or.inl rfl) rfl ?_
      refine z_icmp_gt 26 dX9_assign_22 rfl ⟨by omega, by omega⟩ ⟨by omega, by omega⟩ (fun c3 => ?_) (fun c3 => ?_)
      · skip
        refine e_iload_n dX9_assign_26 rfl ?_
        refine e_aload_n dX9_assign_27 rfl ?_
        refine z_get (nc g) dX9_assign_28 tf_9_56 (congrArg Prod.fst (fg_s0 hk1)) (Or.inl rfl) (isF_nc HF) ?_
        have y4 := isF_n HF
        refine z_icmp_ge 40 dX9_assign_31 rfl ⟨by omega, by omega⟩ ⟨by omega, by omega⟩ (fun c5 => ?_) (fun c5 => ?_)
        · skip
          skip
          refine e_aload_n dX9_assign_40 rfl ?_
          refine e_iload_n dX9_assign_41 rfl ?_
          refine z_put dX9_assign_42 tf_9_15 (congrArg Prod.fst (wk_s0 hk)) rfl (Or.inl rfl) (fun h6 e7 => ?_)
          have f8 := frm_1 e7
          have k9 := lk_q (frm_s f8) hk
          have k10 := lk_q (frm_s f8) hk1
          have H11 := isF_c f8 (fun a k q1 q2 => by omega) HF
          have H12 := mgT_c f8 (fun a k q => by omega) HT
          have H13 := abU_c f8 (fun a k q => by omega) HU
          have H14 := asS_c f8 (fun a k q => by omega) HA
          have FR15 := frm_t FR0 (frm_m (S' := (fun a k => (a = y ∧ k = 1) ∨ a = y + 1 ∨ a = y + 2 ∨ a = y + 5)) f8 (fun a k q => by omega))
          refine e_aload_n dX9_assign_45 rfl ?_
          refine e_get (.ref (y + 2)) dX9_assign_46 tf_9_19 (congrArg Prod.fst (wk_s0 k9)) (congrArg va_rf (wk_r0_2 k9)) ?_
          refine z_iconst (0) dX9_assign_49 rfl ?_
          refine e_aload_n dX9_assign_50 rfl ?_
          refine e_get (.ref (y + 1)) dX9_assign_51 tf_9_9 (congrArg Prod.fst (wk_s0 k9)) (congrArg va_rf (wk_r0_0 k9)) ?_
          refine z_iconst (0) dX9_assign_54 rfl ?_
          refine z_bipush (6) dX9_assign_55 rfl ?_
          refine z_cpy dX9_assign_57 tm_9_78 (Nat.le_of_ble_eq_true rfl) (wk_s1 k9) (wk_s2 k9) (by decide) (by decide) (by omega) (by omega) (by omega) (by omega) (by omega) (fun h16 f17 e18 => ?_)
          have k19 := lk_q (frm_s f17) k9
          have k20 := lk_q (frm_s f17) k10
          have H21 := isF_c f17 (fun a k q1 q2 => by omega) H11
          have H22 := mgT_c f17 (fun a k q => by omega) H12
          have H23 := abU_c f17 (fun a k q => by omega) H13
          have H24 := asS_c f17 (fun a k q => by omega) H14
          have FR25 := frm_t FR15 (frm_m (S' := (fun a k => (a = y ∧ k = 1) ∨ a = y + 1 ∨ a = y + 2 ∨ a = y + 5)) f17 (fun a k q => by omega))
          refine e_vret dX9_assign_60 rfl ⟨rfl, ?_⟩
          have B2 : ∀ x : Int, 0 ≤ x → x < 6 → rI h16 (y + 1) x = rI h (y + 2) x := fun x a b => ((cpy6 e18 a b)).trans ((frm_r f8 (by omega)))
          exact kq _ FR25 (asP_leaf wf (by omega) (by omega) pa HU HV HA (by omega) (show rI h16 y 1 = s from ((frm_r f17 (by omega)).trans (rI_eq e7 ⟨by omega, by omega⟩))) B2) H24
        · skip
          skip
          refine e_iload_n dX9_assign_34 rfl ?_
          refine z_bipush (6) dX9_assign_35 rfl ?_
          refine z_icmp_lt 61 dX9_assign_37 rfl ⟨by omega, by omega⟩ ⟨by omega, by omega⟩ (fun c26 => ?_) (fun c26 => ?_)
          · skip
            refine z_iconst (0) dX9_assign_61 rfl ?_
            refine e_istore (L' := [_, _, _, _, _, _]) dX9_assign_62 (Nat.le_of_ble_eq_true rfl) rfl ?_
            have lp27 : ∀ (n27 : Nat) (d u : Int) (h27 : mH), (nd g - d).toNat = n27 → (wkk h27 y) → (fgk h27 f) → (isF h27 f g) → (mgT h27 y g) → (abU h27 y g) → (asS h27 y w 5) → (frm (fun a k => (a = y ∧ k = 1) ∨ a = y + 1 ∨ a = y + 2 ∨ a = y + 5) h h27) → (0 ≤ d ∧ d ≤ nd g) → (fmax (vaW g) (suW g) (cdZ w 5 + d * scZ (5 + 1)) u) → (bsS h27 y g u) → mEv TB0 ad M_X9_assign (dd + 4) (0, 0) (mCal TB0 ad (dd + 3)) (fun v h' z => z.1 = 0 ∧ Q v h') 64 [some (.ref y), some (.ref f), some (.int (zI 5)), some (.int (zI s)), some (.int (zI d)), none] [] h27 (0, 0) := by
              intro n27
              induction n27 using Nat.strongRecOn with
              | ind n27 ih27 =>
              intro d u h27 hn27 k28 k29 H30 H31 H32 H33 FR34 I1 IF IB
              refine e_iload dX9_assign_64 rfl ?_
              have ib := bsS_b W.2.2 IB
              refine e_aload_n dX9_assign_66 rfl ?_
              refine e_get (.ref (f + 1)) dX9_assign_67 tf_9_84 (congrArg Prod.fst (fg_s0 k29)) (congrArg va_rf (fg_r0_0 k29)) ?_
              refine z_get (nd g) dX9_assign_70 tf_9_88 (congrArg Prod.fst (fg_s1 k29)) (Or.inl rfl) (isF_nd H30) ?_
              have y35 := isF_n H30
              refine z_icmp_ge 176 dX9_assign_73 rfl ⟨by omega, by omega⟩ ⟨by omega, by omega⟩ (fun c36 => ?_) (fun c36 => ?_)
              · skip
                have I6 := asP_hi (c := 5) (by omega) (by omega) (by omega) (by omega) pa (6 - d).toNat d (by omega) (by omega) IF
                refine e_aload_n dX9_assign_176 rfl ?_
                refine e_get (.ref (y + 2)) dX9_assign_177 tf_9_19 (congrArg Prod.fst (wk_s0 k28)) (congrArg va_rf (wk_r0_2 k28)) ?_
                refine e_iload_n dX9_assign_180 rfl ?_
                refine z_bipush (6) dX9_assign_181 rfl ?_
                refine z_ist dX9_assign_183 (wk_s2 k28) (by decide) (by omega) (by omega) (fun h37 e38 => ?_)
                have f39 := frm_1 e38
                have k40 := lk_q (frm_s f39) k28
                have k41 := lk_q (frm_s f39) k29
                have H42 := isF_c f39 (fun a k q1 q2 => by omega) H30
                have H43 := mgT_c f39 (fun a k q => by omega) H31
                have H44 := abU_c f39 (fun a k q => by omega) H32
                have H45 := bsS_c f39 (fun a k q => by omega) IB
                have FR46 := frm_t FR34 (frm_m (S' := (fun a k => (a = y ∧ k = 1) ∨ a = y + 1 ∨ a = y + 2 ∨ a = y + 5)) f39 (fun a k q => by omega))
                have A47 : asS h37 y (setG w 5 6) (5 + 1) := asS_6 H33 (by omega) (fun e a b => (frm_r f39 (by omega))) (by exact (rI_eq e38 ⟨by omega, by omega⟩)) (fun e a b => (frm_r f39 (by omega)))
                have pin := asP_in (c := 5) (d := 6) (by omega) pa I6 rfl (Or.inl (if_pos rfl)) s (by rw [if_neg (by omega)]; omega)
                refine e_aload_n dX9_assign_184 rfl ?_
                refine e_aload_n dX9_assign_185 rfl ?_
                refine e_iload_n dX9_assign_186 rfl ?_
                refine z_iconst (1) dX9_assign_187 rfl ?_
                refine z_iadd dX9_assign_188 ?_
                refine e_iload_n dX9_assign_189 rfl ?_
                refine e_callV [.ref _, .int _, .int _] dX9_assign_190 tm_9_52 rfl (Nat.le_of_ble_eq_true rfl) (congrArg Prod.fst (wk_s0 k40)) (Nat.le_of_ble_eq_true rfl) (Nat.le_refl _) (Nat.le_refl _) rfl (zp_X9_assign_6 k40 k41 H42 H43 H44 A47 H45 s ⟨by omega, by omega⟩ (by omega) pin (by omega) (fun  h48 f49 p50 p51 => ?_))
                have k52 := lk_q (frm_s f49) k40
                have k53 := lk_q (frm_s f49) k41
                have H54 := isF_c f49 (fun a k q1 q2 => by omega) H42
                have H55 := mgT_c f49 (fun a k q => by omega) H43
                have H56 := abU_c f49 (fun a k q => by omega) H44
                have FR57 := frm_t FR46 (frm_m (S' := (fun a k => (a = y ∧ k = 1) ∨ a = y + 1 ∨ a = y + 2 ∨ a = y + 5)) f49 (fun a k q => by omega))
                skip
                refine e_vret dX9_assign_193 rfl ⟨rfl, ?_⟩
                have ZZ : cdZ (setG w 5 6) (5 + 1) + scZ (5 + 1) = cdZ w 5 + scZ 5 := by rw [cd_set (by omega), (sc_s (n := 5) (by omega) (by omega)).1]; omega
                exact kq _ FR57 (by rw [← ZZ]; exact p50) (asS_q p51 (by omega))
              · skip
                refine e_iload dX9_assign_76 rfl ?_
                refine z_bipush (6) dX9_assign_78 rfl ?_
                refine z_icmp_ge 176 dX9_assign_80 rfl ⟨by omega, by omega⟩ ⟨by omega, by omega⟩ (fun c58 => ?_) (fun c58 => ?_)
                · skip
                  have I6 := asP_hi (c := 5) (by omega) (by omega) (by omega) (by omega) pa (6 - d).toNat d (by omega) (by omega) IF
                  refine e_aload_n dX9_assign_176 rfl ?_
                  refine e_get (.ref (y + 2)) dX9_assign_177 tf_9_19 (congrArg Prod.fst (wk_s0 k28)) (congrArg va_rf (wk_r0_2 k28)) ?_
                  refine e_iload_n dX9_assign_180 rfl ?_
                  refine z_bipush (6) dX9_assign_181 rfl ?_
                  refine z_ist dX9_assign_183 (wk_s2 k28) (by decide) (by omega) (by omega) (fun h59 e60 => ?_)
                  have f61 := frm_1 e60
                  have k62 := lk_q (frm_s f61) k28
                  have k63 := lk_q (frm_s f61) k29
                  have H64 := isF_c f61 (fun a k q1 q2 => by omega) H30
                  have H65 := mgT_c f61 (fun a k q => by omega) H31
                  have H66 := abU_c f61 (fun a k q => by omega) H32
                  have H67 := bsS_c f61 (fun a k q => by omega) IB
                  have FR68 := frm_t FR34 (frm_m (S' := (fun a k => (a = y ∧ k = 1) ∨ a = y + 1 ∨ a = y + 2 ∨ a = y + 5)) f61 (fun a k q => by omega))
                  have A69 : asS h59 y (setG w 5 6) (5 + 1) := asS_6 H33 (by omega) (fun e a b => (frm_r f61 (by omega))) (by exact (rI_eq e60 ⟨by omega, by omega⟩)) (fun e a b => (frm_r f61 (by omega)))
                  have pin := asP_in (c := 5) (d := 6) (by omega) pa I6 rfl (Or.inl (if_pos rfl)) s (by rw [if_neg (by omega)]; omega)
                  refine e_aload_n dX9_assign_184 rfl ?_
                  refine e_aload_n dX9_assign_185 rfl ?_
                  refine e_iload_n dX9_assign_186 rfl ?_
                  refine z_iconst (1) dX9_assign_187 rfl ?_
                  refine z_iadd dX9_assign_188 ?_
                  refine e_iload_n dX9_assign_189 rfl ?_
                  refine e_callV [.ref _, .int _, .int _] dX9_assign_190 tm_9_52 rfl (Nat.le_of_ble_eq_true rfl) (congrArg Prod.fst (wk_s0 k62)) (Nat.le_of_ble_eq_true rfl) (Nat.le_refl _) (Nat.le_refl _) rfl (zp_X9_assign_6 k62 k63 H64 H65 H66 A69 H67 s ⟨by omega, by omega⟩ (by omega) pin (by omega) (fun  h70 f71 p72 p73 => ?_))
                  have k74 := lk_q (frm_s f71) k62
                  have k75 := lk_q (frm_s f71) k63
                  have H76 := isF_c f71 (fun a k q1 q2 => by omega) H64
                  have H77 := mgT_c f71 (fun a k q => by omega) H65
                  have H78 := abU_c f71 (fun a k q => by omega) H66
                  have FR79 := frm_t FR68 (frm_m (S' := (fun a k => (a = y ∧ k = 1) ∨ a = y + 1 ∨ a = y + 2 ∨ a = y + 5)) f71 (fun a k q => by omega))
                  skip
                  refine e_vret dX9_assign_193 rfl ⟨rfl, ?_⟩
                  have ZZ : cdZ (setG w 5 6) (5 + 1) + scZ (5 + 1) = cdZ w 5 + scZ 5 := by rw [cd_set (by omega), (sc_s (n := 5) (by omega) (by omega)).1]; omega
                  exact kq _ FR79 (by rw [← ZZ]; exact p72) (asS_q p73 (by omega))
                · skip
                  refine e_aload_n dX9_assign_83 rfl ?_
                  refine e_get (.ref (y + 5)) dX9_assign_84 tf_9_29 (congrArg Prod.fst (wk_s0 k28)) (congrArg va_rf (wk_r0_5 k28)) ?_
                  refine e_iload dX9_assign_87 rfl ?_
                  refine z_ild (rI h27 (y + 5) d) dX9_assign_89 (wk_s5 k28) (by decide) (by omega) (by omega) rfl ?_
                  have y80 := ((H33).1 d (by omega) (by omega)).1
                  refine z_iconst (1) dX9_assign_90 rfl ?_
                  refine e_iload_n dX9_assign_91 rfl ?_
                  refine z_ishl dX9_assign_92 (by omega) (by omega) (by omega) (by omega) ?_
                  have y81 := shlZ_b 1 5
                  refine z_ior dX9_assign_93 (by omega) (by omega) (by omega) (by omega) ?_
                  have y82 := orZ_b (rI h27 (y + 5) d) (shlZ 1 5)
                  refine e_istore (L' := [_, _, _, _, _, _]) dX9_assign_94 (Nat.le_of_ble_eq_true rfl) rfl ?_
                  have hS := asS_h H33 (c := 5) (d := d) (by omega) (by omega)
                  have ob := or_b (k := 5) ((H33).1 d (by omega) (by omega)).1.2 (by omega)
                  have ob : 0 ≤ (orZ (rI h27 (y + 5) d) (shlZ 1 5)) ∧ (orZ (rI h27 (y + 5) d) (shlZ 1 5)) < 64 := ob
                  refine e_aload_n dX9_assign_96 rfl ?_
                  refine e_iload dX9_assign_97 rfl ?_
                  refine e_callV [.int _] dX9_assign_99 tm_9_93 rfl (Nat.le_of_ble_eq_true rfl) (congrArg Prod.fst (fg_s0 k29)) (Nat.le_of_ble_eq_true rfl) (Nat.le_refl _) (Nat.le_refl _) rfl (zp_X2_upOf k29 H30 d ⟨by omega, by omega⟩ ?_)
                  have y83 := upv_s (isF_w H30) d
                  refine z_iconst (-1) dX9_assign_102 rfl ?_
                  refine z_icmp_eq 170 dX9_assign_103 rfl ⟨by omega, by omega⟩ ⟨by omega, by omega⟩ (fun c84 => ?_) (fun c84 => ?_)
                  · skip
                    have nok : ¬ okD g (setG w 5 d) 5 := as_no (by omega) (by omega) (by omega) (by omega) hS (Or.inl (by omega))
                    refine z_iinc (L' := [_, _, _, _, _, _]) dX9_assign_170 rfl rfl ?_
                    refine e_goto 64 dX9_assign_173 rfl ?_
                    exact mEv_wk (by exact ⟨Or.inr rfl, Or.inr rfl, Or.inr rfl, Or.inr rfl, Or.inr rfl, Or.inl rfl, trivial⟩) (ih27 _ (by omega) (d + 1) u h27 rfl k28 k29 H30 H31 H32 H33 FR34 (by omega) (asP_sk (c := 5) (d := d) (by omega) (by omega) (by omega) (by omega) (by omega) pa IF rfl (by rw [Int.add_mul, Int.one_mul]; omega) nok) IB)
                  · skip
                    refine e_aload_n dX9_assign_106 rfl ?_
                    refine e_get (.ref (y + 4)) dX9_assign_107 tf_9_25 (congrArg Prod.fst (wk_s0 k28)) (congrArg va_rf (wk_r0_4 k28)) ?_
                    refine e_iload dX9_assign_110 rfl ?_
                    refine z_bipush (64) dX9_assign_112 rfl ?_
                    refine z_imul dX9_assign_114 ?_
                    refine e_iload dX9_assign_115 rfl ?_
                    refine z_iadd dX9_assign_117 ?_
                    refine z_zld (rI h27 (y + 4) ((d * 64) + (orZ (rI h27 (y + 5) d) (shlZ 1 5)))) dX9_assign_118 (wk_s4 k28) (by decide) (by omega) (by omega) rfl ?_
                    have y85 := mgT_b H31 (d := d) (s := (orZ (rI h27 (y + 5) d) (shlZ 1 5))) (by omega) (by omega) (by omega) (by omega)
                    refine z_if_eq 170 dX9_assign_119 rfl ⟨by omega, by omega⟩ (fun c86 => ?_) (fun c86 => ?_)
                    · skip
                      have nok : ¬ okD g (setG w 5 d) 5 := as_no (by omega) (by omega) (by omega) (by omega) hS (Or.inr (mgT_0 H31 (by omega) (by omega) (by omega) (by omega) (by assumption)))
                      refine z_iinc (L' := [_, _, _, _, _, _]) dX9_assign_170 rfl rfl ?_
                      refine e_goto 64 dX9_assign_173 rfl ?_
                      exact mEv_wk (by exact ⟨Or.inr rfl, Or.inr rfl, Or.inr rfl, Or.inr rfl, Or.inr rfl, Or.inl rfl, trivial⟩) (ih27 _ (by omega) (d + 1) u h27 rfl k28 k29 H30 H31 H32 H33 FR34 (by omega) (asP_sk (c := 5) (d := d) (by omega) (by omega) (by omega) (by omega) (by omega) pa IF rfl (by rw [Int.add_mul, Int.one_mul]; omega) nok) IB)
                    · skip
                      have mgy : mgP g d (orZ (rI h27 (y + 5) d) (shlZ 1 5)) := mgT_1 H31 (by omega) (by omega) (by omega) (by omega) (by assumption)
                      refine e_aload_n dX9_assign_122 rfl ?_
                      refine e_get (.ref (y + 5)) dX9_assign_123 tf_9_29 (congrArg Prod.fst (wk_s0 k28)) (congrArg va_rf (wk_r0_5 k28)) ?_
                      refine e_iload dX9_assign_126 rfl ?_
                      refine e_iload dX9_assign_128 rfl ?_
                      refine z_ist dX9_assign_130 (wk_s5 k28) (by decide) (by omega) (by omega) (fun h87 e88 => ?_)
                      have f89 := frm_1 e88
                      have k90 := lk_q (frm_s f89) k28
                      have k91 := lk_q (frm_s f89) k29
                      have H92 := isF_c f89 (fun a k q1 q2 => by omega) H30
                      have H93 := mgT_c f89 (fun a k q => by omega) H31
                      have H94 := abU_c f89 (fun a k q => by omega) H32
                      have H95 := bsS_c f89 (fun a k q => by omega) IB
                      have FR96 := frm_t FR34 (frm_m (S' := (fun a k => (a = y ∧ k = 1) ∨ a = y + 1 ∨ a = y + 2 ∨ a = y + 5)) f89 (fun a k q => by omega))
                      refine e_aload_n dX9_assign_131 rfl ?_
                      refine e_get (.ref (y + 2)) dX9_assign_132 tf_9_19 (congrArg Prod.fst (wk_s0 k90)) (congrArg va_rf (wk_r0_2 k90)) ?_
                      refine e_iload_n dX9_assign_135 rfl ?_
                      refine e_iload dX9_assign_136 rfl ?_
                      refine z_ist dX9_assign_138 (wk_s2 k90) (by decide) (by omega) (by omega) (fun h97 e98 => ?_)
                      have f99 := frm_1 e98
                      have k100 := lk_q (frm_s f99) k90
                      have k101 := lk_q (frm_s f99) k91
                      have H102 := isF_c f99 (fun a k q1 q2 => by omega) H92
                      have H103 := mgT_c f99 (fun a k q => by omega) H93
                      have H104 := abU_c f99 (fun a k q => by omega) H94
                      have H105 := bsS_c f99 (fun a k q => by omega) H95
                      have FR106 := frm_t FR96 (frm_m (S' := (fun a k => (a = y ∧ k = 1) ∨ a = y + 1 ∨ a = y + 2 ∨ a = y + 5)) f99 (fun a k q => by omega))
                      have A107 : asS h97 y (setG w 5 d) (5 + 1) := asS_y H33 (by omega) (by omega) (by omega) rfl (by exact ((frm_r f99 (by omega)).trans (rI_eq e88 ⟨by omega, by omega⟩))) (fun e a b n => ((frm_r f99 (by omega)).trans (frm_r f89 (by omega)))) (by exact (rI_eq e98 ⟨by omega, by omega⟩)) (fun e a b => ((frm_r f99 (by omega)).trans (frm_r f89 (by omega))))
                      have oky : okD g (setG w 5 d) 5 := as_ok (by omega) (by omega) (by omega) (by omega) (by omega) hS mgy
                      have pin := asP_in (c := 5) (d := d) (by omega) pa IF rfl oky (s + pr g 5) (by rw [if_pos (by omega)])
                      refine e_aload_n dX9_assign_139 rfl ?_
                      refine e_aload_n dX9_assign_140 rfl ?_
                      refine e_iload_n dX9_assign_141 rfl ?_
                      refine z_iconst (1) dX9_assign_142 rfl ?_
                      refine z_iadd dX9_assign_143 ?_
                      refine e_iload_n dX9_assign_144 rfl ?_
                      refine e_aload_n dX9_assign_145 rfl ?_
                      refine e_get (.ref (f + 14)) dX9_assign_146 tf_9_75 (congrArg Prod.fst (fg_s0 k101)) (congrArg va_rf (fg_r0_3 k101)) ?_
                      refine e_iload_n dX9_assign_149 rfl ?_
                      refine z_ild (pr g 5) dX9_assign_150 (fg_s14 k101) (by decide) (by omega) (by omega) (isF_pr H102 (by omega) (by omega)) ?_
                      have y108 := wC_c (isF_w H102).2.2 (show 0 ≤ 5 by omega) (by omega)
                      refine z_iadd dX9_assign_151 ?_
                      refine e_callV [.ref _, .int _, .int _] dX9_assign_152 tm_9_52 rfl (Nat.le_of_ble_eq_true rfl) (congrArg Prod.fst (wk_s0 k100)) (Nat.le_of_ble_eq_true rfl) (Nat.le_refl _) (Nat.le_refl _) rfl (zp_X9_assign_6 k100 k101 H102 H103 H104 A107 H105 (s + (pr g 5)) ⟨by omega, by omega⟩ (by omega) pin (by omega) (fun  h109 f110 p111 p112 => ?_))
                      have k113 := lk_q (frm_s f110) k100
                      have k114 := lk_q (frm_s f110) k101
                      have H115 := isF_c f110 (fun a k q1 q2 => by omega) H102
                      have H116 := mgT_c f110 (fun a k q => by omega) H103
                      have H117 := abU_c f110 (fun a k q => by omega) H104
                      have FR118 := frm_t FR106 (frm_m (S' := (fun a k => (a = y ∧ k = 1) ∨ a = y + 1 ∨ a = y + 2 ∨ a = y + 5)) f110 (fun a k q => by omega))
                      obtain ⟨u2, F2, B2⟩ := p111
                      refine e_aload_n dX9_assign_155 rfl ?_
                      refine e_get (.ref (y + 5)) dX9_assign_156 tf_9_29 (congrArg Prod.fst (wk_s0 k113)) (congrArg va_rf (wk_r0_5 k113)) ?_
                      refine e_iload dX9_assign_159 rfl ?_
                      refine e_iload dX9_assign_161 rfl ?_
                      refine z_iconst (1) dX9_assign_163 rfl ?_
                      refine e_iload_n dX9_assign_164 rfl ?_
                      refine z_ishl dX9_assign_165 (by omega) (by omega) (by omega) (by omega) ?_
                      have y119 := shlZ_b 1 5
                      refine z_iconst (-1) dX9_assign_166 rfl ?_
                      refine z_inot dX9_assign_167 (by omega) ?_
                      refine z_iandn dX9_assign_168 (by omega) (by omega) ?_
                      have y120 := subS_b (orZ (rI h27 (y + 5) d) (shlZ 1 5)) (shlZ 1 5)
                      refine z_ist dX9_assign_169 (wk_s5 k113) (by decide) (by omega) (by omega) (fun h121 e122 => ?_)
                      have f123 := frm_1 e122
                      have k124 := lk_q (frm_s f123) k113
                      have k125 := lk_q (frm_s f123) k114
                      have H126 := isF_c f123 (fun a k q1 q2 => by omega) H115
                      have H127 := mgT_c f123 (fun a k q => by omega) H116
                      have H128 := abU_c f123 (fun a k q => by omega) H117
                      have FR129 := frm_t FR118 (frm_m (S' := (fun a k => (a = y ∧ k = 1) ∨ a = y + 1 ∨ a = y + 2 ∨ a = y + 5)) f123 (fun a k q => by omega))
                      have A130 : asS h121 y w 5 := asS_z p112 (by omega) (by omega) (by omega) hS ob (by exact (rI_eq e122 ⟨by omega, by omega⟩)) (fun e a b n => (frm_r f123 (by omega))) (fun e a b => (frm_r f123 (by omega)))
                      have B131 := bsS_c f123 (fun a k q => by omega) B2
                      refine z_iinc (L' := [_, _, _, _, _, _]) dX9_assign_170 rfl rfl ?_
                      refine e_goto 64 dX9_assign_173 rfl ?_
                      exact mEv_wk (by exact ⟨Or.inr rfl, Or.inr rfl, Or.inr rfl, Or.inr rfl, Or.inr rfl, Or.inl rfl, trivial⟩) (ih27 _ (by omega) (d + 1) u2 h121 rfl k124 k125 H126 H127 H128 A130 FR129 (by omega) (by have zz : cdZ (setG w 5 d) (5 + 1) + scZ (5 + 1) = cdZ w 5 + (d + 1) * scZ (5 + 1) := (by rw [cd_set (by omega), Int.add_mul, Int.one_mul]; omega); rw [← zz]; exact F2) B131)
            exact lp27 _ 0 v h rfl hk hk1 HF HT HU HA FR0 (by omega) (by rw [Int.zero_mul, Int.add_zero]; exact pa.2.2) HV
          · exfalso; omega
      · skip
        skip
        refine e_vret dX9_assign_25 rfl ⟨rfl, ?_⟩
        exact kq _ FR0 (asP_prune wf (by omega) pn pa HU HV (by omega)) HA
set_option maxHeartbeats 4000000 in
theorem zp_X9_assign_4 {ad : mA} {dd : Nat} {h : mH} {Q : mQ} {y f : Nat} {g w : Int → Int} {v : Int} (hk : wkk h y) (hk1 : fgk h f) (HF : isF h f g) (HT : mgT h y g) (HU : abU h y g) (HA : asS h y w 4) (HV : bsS h y g v)  (s : Int) (s_r : -2147483648 ≤ s ∧ s < 2147483648) (pn : (4 : Int) ≤ nc g) (pa : asP g w 4 s v) (pf : y + 7 ≤ f ∨ f + 16 ≤ y) (kq : ∀ h1, frm (fun a k => (a = y ∧ k = 1) ∨ a = y + 1 ∨ a = y + 2 ∨ a = y + 5) h h1 → (asE h1 y g (cdZ w 4 + scZ 4)) → (asS h1 y w 4) → Q none h1) : mCal TB0 ad (dd + 5) M_X9_assign [.ref y, .ref f, .int (zI 4), .int (zI s)] h 0 0 Q := by
  refine ⟨Nat.le_of_ble_eq_true rfl, ?_⟩
  show mEv TB0 ad M_X9_assign (dd + 5) (0, 0) (mCal TB0 ad (dd + 4)) (fun v h' z => z.1 = 0 ∧ Q v h') 0 [some (.ref y), some (.ref f), some (.int (zI 4)), some (.int (zI s)), none, none] [] h (0, 0)
  have FR0 : frm (fun a k => (a = y ∧ k = 1) ∨ a = y + 1 ∨ a = y + 2 ∨ a = y + 5) h h := frm_0 h
  have w1 := isF_n HF
  have w2 := isF_nd HF
  have w3 := isF_nu HF
  have w4 := isF_nc HF
  have W := isF_w HF
  have wf := isF_w HF
  have sb := asP_b W.2.2 (by omega) pn pa
  have ub := abU_b HU (c := 4) (by omega) (by omega)
  have bb := bsS_b W.2.2 HV
  refine e_iload_n dX9_assign_0 rfl ?_
  refine z_if_lt 25 dX9_assign_1 rfl ⟨by omega, by omega⟩ (fun c1 => ?_) (fun c1 => ?_)
  · exfalso; omega
  · skip
    refine e_iload_n dX9_assign_4 rfl ?_
    refine z_bipush (6) dX9_assign_5 rfl ?_
    refine z_icmp_gt 25 dX9_assign_7 rfl ⟨by omega, by omega⟩ ⟨by omega, by omega⟩ (fun c2 => ?_) (fun c2 => ?_)
    · exfalso; omega
    · skip
      refine e_iload_n dX9_assign_10 rfl ?_
      refine e_aload_n dX9_assign_11 rfl ?_
      refine e_get (.ref (y + 6)) dX9_assign_12 tf_9_32 (congrArg Prod.fst (wk_s0 hk)) (congrArg va_rf (wk_r0_6 hk)) ?_
      refine e_iload_n dX9_assign_15 rfl ?_
      refine z_ild (rI h (y + 6) 4) dX9_assign_16 (wk_s6 hk) (by decide) (by omega) (by omega) rfl ?_
      refine z_iadd dX9_assign_17 ?_
      refine e_aload_n dX9_assign_18 rfl ?_
      refine z_get (rI h y 1) dX9_assign_19 tf_9_15 (congrArg Prod.fst (wk_s0 hk)) (Or.inl rfl) rfl ?_
      refine z_icmp_gt 26 dX9_assign_22 rfl ⟨by omega, by omega⟩ ⟨by omega, by omega⟩ (fun c3 => ?_) (fun c3 => ?_)
      · skip
        refine e_iload_n dX9_assign_26 rfl ?_
        refine e_aload_n dX9_assign_27 rfl ?_
        refine z_get (nc g) dX9_assign_28 tf_9_56 (congrArg Prod.fst (fg_s0 hk1)) (Or.inl rfl) (isF_nc HF) ?_
        have y4 := isF_n HF
        refine z_icmp_ge 40 dX9_assign_31 rfl ⟨by omega, by omega⟩ ⟨by omega, by omega⟩ (fun c5 => ?_) (fun c5 => ?_)
        · skip
          skip
          refine e_aload_n dX9_assign_40 rfl ?_
          refine e_iload_n dX9_assign_41 rfl ?_
          refine z_put dX9_assign_42 tf_9_15 (congrArg Prod.fst (wk_s0 hk)) rfl (Or.inl rfl) (fun h6 e7 => ?_)
          have f8 := frm_1 e7
          have k9 := lk_q (frm_s f8) hk
          have k10 := lk_q (frm_s f8) hk1
          have H11 := isF_c f8 (fun a k q1 q2 => by omega) HF
          have H12 := mgT_c f8 (fun a k q => by omega) HT
          have H13 := abU_c f8 (fun a k q => by omega) HU
          have H14 := asS_c f8 (fun a k q => by omega) HA
          have FR15 := frm_t FR0 (frm_m (S' := (fun a k => (a = y ∧ k = 1) ∨ a = y + 1 ∨ a = y + 2 ∨ a = y + 5)) f8 (fun a k q => by omega))
          refine e_aload_n dX9_assign_45 rfl ?_
          refine e_get (.ref (y + 2)) dX9_assign_46 tf_9_19 (congrArg Prod.fst (wk_s0 k9)) (congrArg va_rf (wk_r0_2 k9)) ?_
          refine z_iconst (0) dX9_assign_49 rfl ?_
          refine e_aload_n dX9_assign_50 rfl ?_
          refine e_get (.ref (y + 1)) dX9_assign_51 tf_9_9 (congrArg Prod.fst (wk_s0 k9)) (congrArg va_rf (wk_r0_0 k9)) ?_
          refine z_iconst (0) dX9_assign_54 rfl ?_
          refine z_bipush (6) dX9_assign_55 rfl ?_
          refine z_cpy dX9_assign_57 tm_9_78 (Nat.le_of_ble_eq_true rfl) (wk_s1 k9) (wk_s2 k9) (by decide) (by decide) (by omega) (by omega) (by omega) (by omega) (by omega) (fun h16 f17 e18 => ?_)
          have k19 := lk_q (frm_s f17) k9
          have k20 := lk_q (frm_s f17) k10
          have H21 := isF_c f17 (fun a k q1 q2 => by omega) H11
          have H22 := mgT_c f17 (fun a k q => by omega) H12
          have H23 := abU_c f17 (fun a k q => by omega) H13
          have H24 := asS_c f17 (fun a k q => by omega) H14
          have FR25 := frm_t FR15 (frm_m (S' := (fun a k => (a = y ∧ k = 1) ∨ a = y + 1 ∨ a = y + 2 ∨ a = y + 5)) f17 (fun a k q => by omega))
          refine e_vret dX9_assign_60 rfl ⟨rfl, ?_⟩
          have B2 : ∀ x : Int, 0 ≤ x → x < 6 → rI h16 (y + 1) x = rI h (y + 2) x := fun x a b => ((cpy6 e18 a b)).trans ((frm_r f8 (by omega)))
          exact kq _ FR25 (asP_leaf wf (by omega) (by omega) pa HU HV HA (by omega) (show rI h16 y 1 = s from ((frm_r f17 (by omega)).trans (rI_eq e7 ⟨by omega, by omega⟩))) B2) H24
        · skip
          skip
          refine e_iload_n dX9_assign_34 rfl ?_
          refine z_bipush (6) dX9_assign_35 rfl ?_
          refine z_icmp_lt 61 dX9_assign_37 rfl ⟨by omega, by omega⟩ ⟨by omega, by omega⟩ (fun c26 => ?_) (fun c26 => ?_)
          · skip
            refine z_iconst (0) dX9_assign_61 rfl ?_
            refine e_istore (L' := [_, _, _, _, _, _]) dX9_assign_62 (Nat.le_of_ble_eq_true rfl) rfl ?_
            have lp27 : ∀ (n27 : Nat) (d u : Int) (h27 : mH), (nd g - d).toNat = n27 → (wkk h27 y) → (fgk h27 f) → (isF h27 f g) → (mgT h27 y g) → (abU h27 y g) → (asS h27 y w 4) → (frm (fun a k => (a = y ∧ k = 1) ∨ a = y + 1 ∨ a = y + 2 ∨ a = y + 5) h h27) → (0 ≤ d ∧ d ≤ nd g) → (fmax (vaW g) (suW g) (cdZ w 4 + d * scZ (4 + 1)) u) → (bsS h27 y g u) → mEv TB0 ad M_X9_assign (dd + 5) (0, 0) (mCal TB0 ad (dd + 4)) (fun v h' z => z.1 = 0 ∧ Q v h') 64 [some (.ref y), some (.ref f), some (.int (zI 4)), some (.int (zI s)), some (.int (zI d)), none] [] h27 (0, 0) := by
              intro n27
              induction n27 using Nat.strongRecOn with
              | ind n27 ih27 =>
              intro d u h27 hn27 k28 k29 H30 H31 H32 H33 FR34 I1 IF IB
              refine e_iload dX9_assign_64 rfl ?_
              have ib := bsS_b W.2.2 IB
              refine e_aload_n dX9_assign_66 rfl ?_
              refine e_get (.ref (f + 1)) dX9_assign_67 tf_9_84 (congrArg Prod.fst (fg_s0 k29)) (congrArg va_rf (fg_r0_0 k29)) ?_
              refine z_get (nd g) dX9_assign_70 tf_9_88 (congrArg Prod.fst (fg_s1 k29)) (Or.inl rfl) (isF_nd H30) ?_
              have y35 := isF_n H30
              refine z_icmp_ge 176 dX9_assign_73 rfl ⟨by omega, by omega⟩ ⟨by omega, by omega⟩ (fun c36 => ?_) (fun c36 => ?_)
              · skip
                have I6 := asP_hi (c := 4) (by omega) (by omega) (by omega) (by omega) pa (6 - d).toNat d (by omega) (by omega) IF
                refine e_aload_n dX9_assign_176 rfl ?_
                refine e_get (.ref (y + 2)) dX9_assign_177 tf_9_19 (congrArg Prod.fst (wk_s0 k28)) (congrArg va_rf (wk_r0_2 k28)) ?_
                refine e_iload_n dX9_assign_180 rfl ?_
                refine z_bipush (6) dX9_assign_181 rfl ?_
                refine z_ist dX9_assign_183 (wk_s2 k28) (by decide) (by omega) (by omega) (fun h37 e38 => ?_)
                have f39 := frm_1 e38
                have k40 := lk_q (frm_s f39) k28
                have k41 := lk_q (frm_s f39) k29
                have H42 := isF_c f39 (fun a k q1 q2 => by omega) H30
                have H43 := mgT_c f39 (fun a k q => by omega) H31
                have H44 := abU_c f39 (fun a k q => by omega) H32
                have H45 := bsS_c f39 (fun a k q => by omega) IB
                have FR46 := frm_t FR34 (frm_m (S' := (fun a k => (a = y ∧ k = 1) ∨ a = y + 1 ∨ a = y + 2 ∨ a = y + 5)) f39 (fun a k q => by omega))
                have A47 : asS h37 y (setG w 4 6) (4 + 1) := asS_6 H33 (by omega) (fun e a b => (frm_r f39 (by omega))) (by exact (rI_eq e38 ⟨by omega, by omega⟩)) (fun e a b => (frm_r f39 (by omega)))
                have pin := asP_in (c := 4) (d := 6) (by omega) pa I6 rfl (Or.inl (if_pos rfl)) s (by rw [if_neg (by omega)]; omega)
                refine e_aload_n dX9_assign_184 rfl ?_
                refine e_aload_n dX9_assign_185 rfl ?_
                refine e_iload_n dX9_assign_186 rfl ?_
                refine z_iconst (1) dX9_assign_187 rfl ?_
                refine z_iadd dX9_assign_188 ?_
                refine e_iload_n dX9_assign_189 rfl ?_
                refine e_callV [.ref _, .int _, .int _] dX9_assign_190 tm_9_52 rfl (Nat.le_of_ble_eq_true rfl) (congrArg Prod.fst (wk_s0 k40)) (Nat.le_of_ble_eq_true rfl) (Nat.le_refl _) (Nat.le_refl _) rfl (zp_X9_assign_5 k40 k41 H42 H43 H44 A47 H45 s ⟨by omega, by omega⟩ (by omega) pin (by omega) (fun  h48 f49 p50 p51 => ?_))
                have k52 := lk_q (frm_s f49) k40
                have k53 := lk_q (frm_s f49) k41
                have H54 := isF_c f49 (fun a k q1 q2 => by omega) H42
                have H55 := mgT_c f49 (fun a k q => by omega) H43
                have H56 := abU_c f49 (fun a k q => by omega) H44
                have FR57 := frm_t FR46 (frm_m (S' := (fun a k => (a = y ∧ k = 1) ∨ a = y + 1 ∨ a = y + 2 ∨ a = y + 5)) f49 (fun a k q => by omega))
                skip
                refine e_vret dX9_assign_193 rfl ⟨rfl, ?_⟩
                have ZZ : cdZ (setG w 4 6) (4 + 1) + scZ (4 + 1) = cdZ w 4 + scZ 4 := by rw [cd_set (by omega), (sc_s (n := 4) (by omega) (by omega)).1]; omega
                exact kq _ FR57 (by rw [← ZZ]; exact p50) (asS_q p51 (by omega))
              · skip
                refine e_iload dX9_assign_76 rfl ?_
                refine z_bipush (6) dX9_assign_78 rfl ?_
                refine z_icmp_ge 176 dX9_assign_80 rfl ⟨by omega, by omega⟩ ⟨by omega, by omega⟩ (fun c58 => ?_) (fun c58 => ?_)
                · skip
                  have I6 := asP_hi (c := 4) (by omega) (by omega) (by omega) (by omega) pa (6 - d).toNat d (by omega) (by omega) IF
                  refine e_aload_n dX9_assign_176 rfl ?_
                  refine e_get (.ref (y + 2)) dX9_assign_177 tf_9_19 (congrArg Prod.fst (wk_s0 k28)) (congrArg va_rf (wk_r0_2 k28)) ?_
                  refine e_iload_n dX9_assign_180 rfl ?_
                  refine z_bipush (6) dX9_assign_181 rfl ?_
                  refine z_ist dX9_assign_183 (wk_s2 k28) (by decide) (by omega) (by omega) (fun h59 e60 => ?_)
                  have f61 := frm_1 e60
                  have k62 := lk_q (frm_s f61) k28
                  have k63 := lk_q (frm_s f61) k29
                  have H64 := isF_c f61 (fun a k q1 q2 => by omega) H30
                  have H65 := mgT_c f61 (fun a k q => by omega) H31
                  have H66 := abU_c f61 (fun a k q => by omega) H32
                  have H67 := bsS_c f61 (fun a k q => by omega) IB
                  have FR68 := frm_t FR34 (frm_m (S' := (fun a k => (a = y ∧ k = 1) ∨ a = y + 1 ∨ a = y + 2 ∨ a = y + 5)) f61 (fun a k q => by omega))
                  have A69 : asS h59 y (setG w 4 6) (4 + 1) := asS_6 H33 (by omega) (fun e a b => (frm_r f61 (by omega))) (by exact (rI_eq e60 ⟨by omega, by omega⟩)) (fun e a b => (frm_r f61 (by omega)))
                  have pin := asP_in (c := 4) (d := 6) (by omega) pa I6 rfl (Or.inl (if_pos rfl)) s (by rw [if_neg (by omega)]; omega)
                  refine e_aload_n dX9_assign_184 rfl ?_
                  refine e_aload_n dX9_assign_185 rfl ?_
                  refine e_iload_n dX9_assign_186 rfl ?_
                  refine z_iconst (1) dX9_assign_187 rfl ?_
                  refine z_iadd dX9_assign_188 ?_
                  refine e_iload_n dX9_assign_189 rfl ?_
                  refine e_callV [.ref _, .int _, .int _] dX9_assign_190 tm_9_52 rfl (Nat.le_of_ble_eq_true rfl) (congrArg Prod.fst (wk_s0 k62)) (Nat.le_of_ble_eq_true rfl) (Nat.le_refl _) (Nat.le_refl _) rfl (zp_X9_assign_5 k62 k63 H64 H65 H66 A69 H67 s ⟨by omega, by omega⟩ (by omega) pin (by omega) (fun  h70 f71 p72 p73 => ?_))
                  have k74 := lk_q (frm_s f71) k62
                  have k75 := lk_q (frm_s f71) k63
                  have H76 := isF_c f71 (fun a k q1 q2 => by omega) H64
                  have H77 := mgT_c f71 (fun a k q => by omega) H65
                  have H78 := abU_c f71 (fun a k q => by omega) H66
                  have FR79 := frm_t FR68 (frm_m (S' := (fun a k => (a = y ∧ k = 1) ∨ a = y + 1 ∨ a = y + 2 ∨ a = y + 5)) f71 (fun a k q => by omega))
                  skip
                  refine e_vret dX9_assign_193 rfl ⟨rfl, ?_⟩
                  have ZZ : cdZ (setG w 4 6) (4 + 1) + scZ (4 + 1) = cdZ w 4 + scZ 4 := by rw [cd_set (by omega), (sc_s (n := 4) (by omega) (by omega)).1]; omega
                  exact kq _ FR79 (by rw [← ZZ]; exact p72) (asS_q p73 (by omega))
                · skip
                  refine e_aload_n dX9_assign_83 rfl ?_
                  refine e_get (.ref (y + 5)) dX9_assign_84 tf_9_29 (congrArg Prod.fst (wk_s0 k28)) (congrArg va_rf (wk_r0_5 k28)) ?_
                  refine e_iload dX9_assign_87 rfl ?_
                  refine z_ild (rI h27 (y + 5) d) dX9_assign_89 (wk_s5 k28) (by decide) (by omega) (by omega) rfl ?_
                  have y80 := ((H33).1 d (by omega) (by omega)).1
                  refine z_iconst (1) dX9_assign_90 rfl ?_
                  refine e_iload_n dX9_assign_91 rfl ?_
                  refine z_ishl dX9_assign_92 (by omega) (by omega) (by omega) (by omega) ?_
                  have y81 := shlZ_b 1 4
                  refine z_ior dX9_assign_93 (by omega) (by omega) (by omega) (by omega) ?_
                  have y82 := orZ_b (rI h27 (y + 5) d) (shlZ 1 4)
                  refine e_istore (L' := [_, _, _, _, _, _]) dX9_assign_94 (Nat.le_of_ble_eq_true rfl) rfl ?_
                  have hS := asS_h H33 (c := 4) (d := d) (by omega) (by omega)
                  have ob := or_b (k := 4) ((H33).1 d (by omega) (by omega)).1.2 (by omega)
                  have ob : 0 ≤ (orZ (rI h27 (y + 5) d) (shlZ 1 4)) ∧ (orZ (rI h27 (y + 5) d) (shlZ 1 4)) < 64 := ob
                  refine e_aload_n dX9_assign_96 rfl ?_
                  refine e_iload dX9_assign_97 rfl ?_
                  refine e_callV [.int _] dX9_assign_99 tm_9_93 rfl (Nat.le_of_ble_eq_true rfl) (congrArg Prod.fst (fg_s0 k29)) (Nat.le_of_ble_eq_true rfl) (Nat.le_refl _) (Nat.le_refl _) rfl (zp_X2_upOf k29 H30 d ⟨by omega, by omega⟩ ?_)
                  have y83 := upv_s (isF_w H30) d
                  refine z_iconst (-1) dX9_assign_102 rfl ?_
                  refine z_icmp_eq 170 dX9_assign_103 rfl ⟨by omega, by omega⟩ ⟨by omega, by omega⟩ (fun c84 => ?_) (fun c84 => ?_)
                  · skip
                    have nok : ¬ okD g (setG w 4 d) 4 := as_no (by omega) (by omega) (by omega) (by omega) hS (Or.inl (by omega))
                    refine z_iinc (L' := [_, _, _, _, _, _]) dX9_assign_170 rfl rfl ?_
                    refine e_goto 64 dX9_assign_173 rfl ?_
                    exact mEv_wk (by exact ⟨Or.inr rfl, Or.inr rfl, Or.inr rfl, Or.inr rfl, Or.inr rfl, Or.inl rfl, trivial⟩) (ih27 _ (by omega) (d + 1) u h27 rfl k28 k29 H30 H31 H32 H33 FR34 (by omega) (asP_sk (c := 4) (d := d) (by omega) (by omega) (by omega) (by omega) (by omega) pa IF rfl (by rw [Int.add_mul, Int.one_mul]; omega) nok) IB)
                  · skip
                    refine e_aload_n dX9_assign_106 rfl ?_
                    refine e_get (.ref (y + 4)) dX9_assign_107 tf_9_25 (congrArg Prod.fst (wk_s0 k28)) (congrArg va_rf (wk_r0_4 k28)) ?_
                    refine e_iload dX9_assign_110 rfl ?_
                    refine z_bipush (64) dX9_assign_112 rfl ?_
                    refine z_imul dX9_assign_114 ?_
                    refine e_iload dX9_assign_115 rfl ?_
                    refine z_iadd dX9_assign_117 ?_
                    refine z_zld (rI h27 (y + 4) ((d * 64) + (orZ (rI h27 (y + 5) d) (shlZ 1 4)))) dX9_assign_118 (wk_s4 k28) (by decide) (by omega) (by omega) rfl ?_
                    have y85 := mgT_b H31 (d := d) (s := (orZ (rI h27 (y + 5) d) (shlZ 1 4))) (by omega) (by omega) (by omega) (by omega)
                    refine z_if_eq 170 dX9_assign_119 rfl ⟨by omega, by omega⟩ (fun c86 => ?_) (fun c86 => ?_)
                    · skip
                      have nok : ¬ okD g (setG w 4 d) 4 := as_no (by omega) (by omega) (by omega) (by omega) hS (Or.inr (mgT_0 H31 (by omega) (by omega) (by omega) (by omega) (by assumption)))
                      refine z_iinc (L' := [_, _, _, _, _, _]) dX9_assign_170 rfl rfl ?_
                      refine e_goto 64 dX9_assign_173 rfl ?_
                      exact mEv_wk (by exact ⟨Or.inr rfl, Or.inr rfl, Or.inr rfl, Or.inr rfl, Or.inr rfl, Or.inl rfl, trivial⟩) (ih27 _ (by omega) (d + 1) u h27 rfl k28 k29 H30 H31 H32 H33 FR34 (by omega) (asP_sk (c := 4) (d := d) (by omega) (by omega) (by omega) (by omega) (by omega) pa IF rfl (by rw [Int.add_mul, Int.one_mul]; omega) nok) IB)
                    · skip
                      have mgy : mgP g d (orZ (rI h27 (y + 5) d) (shlZ 1 4)) := mgT_1 H31 (by omega) (by omega) (by omega) (by omega) (by assumption)
                      refine e_aload_n dX9_assign_122 rfl ?_
                      refine e_get (.ref (y + 5)) dX9_assign_123 tf_9_29 (congrArg Prod.fst (wk_s0 k28)) (congrArg va_rf (wk_r0_5 k28)) ?_
                      refine e_iload dX9_assign_126 rfl ?_
                      refine e_iload dX9_assign_128 rfl ?_
                      refine z_ist dX9_assign_130 (wk_s5 k28) (by decide) (by omega) (by omega) (fun h87 e88 => ?_)
                      have f89 := frm_1 e88
                      have k90 := lk_q (frm_s f89) k28
                      have k91 := lk_q (frm_s f89) k29
                      have H92 := isF_c f89 (fun a k q1 q2 => by omega) H30
                      have H93 := mgT_c f89 (fun a k q => by omega) H31
                      have H94 := abU_c f89 (fun a k q => by omega) H32
                      have H95 := bsS_c f89 (fun a k q => by omega) IB
                      have FR96 := frm_t FR34 (frm_m (S' := (fun a k => (a = y ∧ k = 1) ∨ a = y + 1 ∨ a = y + 2 ∨ a = y + 5)) f89 (fun a k q => by omega))
                      refine e_aload_n dX9_assign_131 rfl ?_
                      refine e_get (.ref (y + 2)) dX9_assign_132 tf_9_19 (congrArg Prod.fst (wk_s0 k90)) (congrArg va_rf (wk_r0_2 k90)) ?_
                      refine e_iload_n dX9_assign_135 rfl ?_
                      refine e_iload dX9_assign_136 rfl ?_
                      refine z_ist dX9_assign_138 (wk_s2 k90) (by decide) (by omega) (by omega) (fun h97 e98 => ?_)
                      have f99 := frm_1 e98
                      have k100 := lk_q (frm_s f99) k90
                      have k101 := lk_q (frm_s f99) k91
                      have H102 := isF_c f99 (fun a k q1 q2 => by omega) H92
                      have H103 := mgT_c f99 (fun a k q => by omega) H93
                      have H104 := abU_c f99 (fun a k q => by omega) H94
                      have H105 := bsS_c f99 (fun a k q => by omega) H95
                      have FR106 := frm_t FR96 (frm_m (S' := (fun a k => (a = y ∧ k = 1) ∨ a = y + 1 ∨ a = y + 2 ∨ a = y + 5)) f99 (fun a k q => by omega))
                      have A107 : asS h97 y (setG w 4 d) (4 + 1) := asS_y H33 (by omega) (by omega) (by omega) rfl (by exact ((frm_r f99 (by omega)).trans (rI_eq e88 ⟨by omega, by omega⟩))) (fun e a b n => ((frm_r f99 (by omega)).trans (frm_r f89 (by omega)))) (by exact (rI_eq e98 ⟨by omega, by omega⟩)) (fun e a b => ((frm_r f99 (by omega)).trans (frm_r f89 (by omega))))
                      have oky : okD g (setG w 4 d) 4 := as_ok (by omega) (by omega) (by omega) (by omega) (by omega) hS mgy
                      have pin := asP_in (c := 4) (d := d) (by omega) pa IF rfl oky (s + pr g 4) (by rw [if_pos (by omega)])
                      refine e_aload_n dX9_assign_139 rfl ?_
                      refine e_aload_n dX9_assign_140 rfl ?_
                      refine e_iload_n dX9_assign_141 rfl ?_
                      refine z_iconst (1) dX9_assign_142 rfl ?_
                      refine z_iadd dX9_assign_143 ?_
                      refine e_iload_n dX9_assign_144 rfl ?_
                      refine e_aload_n dX9_assign_145 rfl ?_
                      refine e_get (.ref (f + 14)) dX9_assign_146 tf_9_75 (congrArg Prod.fst (fg_s0 k101)) (congrArg va_rf (fg_r0_3 k101)) ?_
                      refine e_iload_n dX9_assign_149 rfl ?_
                      refine z_ild (pr g 4) dX9_assign_150 (fg_s14 k101) (by decide) (by omega) (by omega) (isF_pr H102 (by omega) (by omega)) ?_
                      have y108 := wC_c (isF_w H102).2.2 (show 0 ≤ 4 by omega) (by omega)
                      refine z_iadd dX9_assign_151 ?_
                      refine e_callV [.ref _, .int _, .int _] dX9_assign_152 tm_9_52 rfl (Nat.le_of_ble_eq_true rfl) (congrArg Prod.fst (wk_s0 k100)) (Nat.le_of_ble_eq_true rfl) (Nat.le_refl _) (Nat.le_refl _) rfl (zp_X9_assign_5 k100 k101 H102 H103 H104 A107 H105 (s + (pr g 4)) ⟨by omega, by omega⟩ (by omega) pin (by omega) (fun  h109 f110 p111 p112 => ?_))
                      have k113 := lk_q (frm_s f110) k100
                      have k114 := lk_q (frm_s f110) k101
                      have H115 := isF_c f110 (fun a k q1 q2 => by omega) H102
                      have H116 := mgT_c f110 (fun a k q => by omega) H103
                      have H117 := abU_c f110 (fun a k q => by omega) H104
                      have FR118 := frm_t FR106 (frm_m (S' := (fun a k => (a = y ∧ k = 1) ∨ a = y + 1 ∨ a = y + 2 ∨ a = y + 5)) f110 (fun a k q => by omega))
                      obtain ⟨u2, F2, B2⟩ := p111
                      refine e_aload_n dX9_assign_155 rfl ?_
                      refine e_get (.ref (y + 5)) dX9_assign_156 tf_9_29 (congrArg Prod.fst (wk_s0 k113)) (congrArg va_rf (wk_r0_5 k113)) ?_
                      refine e_iload dX9_assign_159 rfl ?_
                      refine e_iload dX9_assign_161 rfl ?_
                      refine z_iconst (1) dX9_assign_163 rfl ?_
                      refine e_iload_n dX9_assign_164 rfl ?_
                      refine z_ishl dX9_assign_165 (by omega) (by omega) (by omega) (by omega) ?_
                      have y119 := shlZ_b 1 4
                      refine z_iconst (-1) dX9_assign_166 rfl ?_
                      refine z_inot dX9_assign_167 (by omega) ?_
                      refine z_iandn dX9_assign_168 (by omega) (by omega) ?_
                      have y120 := subS_b (orZ (rI h27 (y + 5) d) (shlZ 1 4)) (shlZ 1 4)
                      refine z_ist dX9_assign_169 (wk_s5 k113) (by decide) (by omega) (by omega) (fun h121 e122 => ?_)
                      have f123 := frm_1 e122
                      have k124 := lk_q (frm_s f123) k113
                      have k125 := lk_q (frm_s f123) k114
                      have H126 := isF_c f123 (fun a k q1 q2 => by omega) H115
                      have H127 := mgT_c f123 (fun a k q => by omega) H116
                      have H128 := abU_c f123 (fun a k q => by omega) H117
                      have FR129 := frm_t FR118 (frm_m (S' := (fun a k => (a = y ∧ k = 1) ∨ a = y + 1 ∨ a = y + 2 ∨ a = y + 5)) f123 (fun a k q => by omega))
                      have A130 : asS h121 y w 4 := asS_z p112 (by omega) (by omega) (by omega) hS ob (by exact (rI_eq e122 ⟨by omega, by omega⟩)) (fun e a b n => (frm_r f123 (by omega))) (fun e a b => (frm_r f123 (by omega)))
                      have B131 := bsS_c f123 (fun a k q => by omega) B2
                      refine z_iinc (L' := [_, _, _, _, _, _]) dX9_assign_170 rfl rfl ?_
                      refine e_goto 64 dX9_assign_173 rfl ?_
                      exact mEv_wk (by exact ⟨Or.inr rfl, Or.inr rfl, Or.inr rfl, Or.inr rfl, Or.inr rfl, Or.inl rfl, trivial⟩) (ih27 _ (by omega) (d + 1) u2 h121 rfl k124 k125 H126 H127 H128 A130 FR129 (by omega) (by have zz : cdZ (setG w 4 d) (4 + 1) + scZ (4 + 1) = cdZ w 4 + (d + 1) * scZ (4 + 1) := (by rw [cd_set (by omega), Int.add_mul, Int.one_mul]; omega); rw [← zz]; exact F2) B131)
            exact lp27 _ 0 v h rfl hk hk1 HF HT HU HA FR0 (by omega) (by rw [Int.zero_mul, Int.add_zero]; exact pa.2.2) HV
          · exfalso; omega
      · skip
        skip
        refine e_vret dX9_assign_25 rfl ⟨rfl, ?_⟩
        exact kq _ FR0 (asP_prune wf (by omega) pn pa HU HV (by omega)) HA
set_option maxHeartbeats 4000000 in
theorem zp_X9_assign_3 {ad : mA} {dd : Nat} {h : mH} {Q : mQ} {y f : Nat} {g w : Int → Int} {v : Int} (hk : wkk h y) (hk1 : fgk h f) (HF : isF h f g) (HT : mgT h y g) (HU : abU h y g) (HA : asS h y w 3) (HV : bsS h y g v)  (s : Int) (s_r : -2147483648 ≤ s ∧ s < 2147483648) (pn : (3 : Int) ≤ nc g) (pa : asP g w 3 s v) (pf : y + 7 ≤ f ∨ f + 16 ≤ y) (kq : ∀ h1, frm (fun a k => (a = y ∧ k = 1) ∨ a = y + 1 ∨ a = y + 2 ∨ a = y + 5) h h1 → (asE h1 y g (cdZ w 3 + scZ 3)) → (asS h1 y w 3) → Q none h1) : mCal TB0 ad (dd + 6) M_X9_assign [.ref y, .ref f, .int (zI 3), .int (zI s)] h 0 0 Q := by
  refine ⟨Nat.le_of_ble_eq_true rfl, ?_⟩
  show mEv TB0 ad M_X9_assign (dd + 6) (0, 0) (mCal TB0 ad (dd + 5)) (fun v h' z => z.1 = 0 ∧ Q v h') 0 [some (.ref y), some (.ref f), some (.int (zI 3)), some (.int (zI s)), none, none] [] h (0, 0)
  have FR0 : frm (fun a k => (a = y ∧ k = 1) ∨ a = y + 1 ∨ a = y + 2 ∨ a = y + 5) h h := frm_0 h
  have w1 := isF_n HF
  have w2 := isF_nd HF
  have w3 := isF_nu HF
  have w4 := isF_nc HF
  have W := isF_w HF
  have wf := isF_w HF
  have sb := asP_b W.2.2 (by omega) pn pa
  have ub := abU_b HU (c := 3) (by omega) (by omega)
  have bb := bsS_b W.2.2 HV
  refine e_iload_n dX9_assign_0 rfl ?_
  refine z_if_lt 25 dX9_assign_1 rfl ⟨by omega, by omega⟩ (fun c1 => ?_) (fun c1 => ?_)
  · exfalso; omega
  · skip
    refine e_iload_n dX9_assign_4 rfl ?_
    refine z_bipush (6) dX9_assign_5 rfl ?_
    refine z_icmp_gt 25 dX9_assign_7 rfl ⟨by omega, by omega⟩ ⟨by omega, by omega⟩ (fun c2 => ?_) (fun c2 => ?_)
    · exfalso; omega
    · skip
      refine e_iload_n dX9_assign_10 rfl ?_
      refine e_aload_n dX9_assign_11 rfl ?_
      refine e_get (.ref (y + 6)) dX9_assign_12 tf_9_32 (congrArg Prod.fst (wk_s0 hk)) (congrArg va_rf (wk_r0_6 hk)) ?_
      refine e_iload_n dX9_assign_15 rfl ?_
      refine z_ild (rI h (y + 6) 3) dX9_assign_16 (wk_s6 hk) (by decide) (by omega) (by omega) rfl ?_
      refine z_iadd dX9_assign_17 ?_
      refine e_aload_n dX9_assign_18 rfl ?_
      refine z_get (rI h y 1) dX9_assign_19 tf_9_15 (congrArg Prod.fst (wk_s0 hk)) (Or.inl rfl) rfl ?_
      refine z_icmp_gt 26 dX9_assign_22 rfl ⟨by omega, by omega⟩ ⟨by omega, by omega⟩ (fun c3 => ?_) (fun c3 => ?_)
      · skip
        refine e_iload_n dX9_assign_26 rfl ?_
        refine e_aload_n dX9_assign_27 rfl ?_
        refine z_get (nc g) dX9_assign_28 tf_9_56 (congrArg Prod.fst (fg_s0 hk1)) (Or.inl rfl) (isF_nc HF) ?_
        have y4 := isF_n HF
        refine z_icmp_ge 40 dX9_assign_31 rfl ⟨by omega, by omega⟩ ⟨by omega, by omega⟩ (fun c5 => ?_) (fun c5 => ?_)
        · skip
          skip
          refine e_aload_n dX9_assign_40 rfl ?_
          refine e_iload_n dX9_assign_41 rfl ?_
          refine z_put dX9_assign_42 tf_9_15 (congrArg Prod.fst (wk_s0 hk)) rfl (Or.inl rfl) (fun h6 e7 => ?_)
          have f8 := frm_1 e7
          have k9 := lk_q (frm_s f8) hk
          have k10 := lk_q (frm_s f8) hk1
          have H11 := isF_c f8 (fun a k q1 q2 => by omega) HF
          have H12 := mgT_c f8 (fun a k q => by omega) HT
          have H13 := abU_c f8 (fun a k q => by omega) HU
          have H14 := asS_c f8 (fun a k q => by omega) HA
          have FR15 := frm_t FR0 (frm_m (S' := (fun a k => (a = y ∧ k = 1) ∨ a = y + 1 ∨ a = y + 2 ∨ a = y + 5)) f8 (fun a k q => by omega))
          refine e_aload_n dX9_assign_45 rfl ?_
          refine e_get (.ref (y + 2)) dX9_assign_46 tf_9_19 (congrArg Prod.fst (wk_s0 k9)) (congrArg va_rf (wk_r0_2 k9)) ?_
          refine z_iconst (0) dX9_assign_49 rfl ?_
          refine e_aload_n dX9_assign_50 rfl ?_
          refine e_get (.ref (y + 1)) dX9_assign_51 tf_9_9 (congrArg Prod.fst (wk_s0 k9)) (congrArg va_rf (wk_r0_0 k9)) ?_
          refine z_iconst (0) dX9_assign_54 rfl ?_
          refine z_bipush (6) dX9_assign_55 rfl ?_
          refine z_cpy dX9_assign_57 tm_9_78 (Nat.le_of_ble_eq_true rfl) (wk_s1 k9) (wk_s2 k9) (by decide) (by decide) (by omega) (by omega) (by omega) (by omega) (by omega) (fun h16 f17 e18 => ?_)
          have k19 := lk_q (frm_s f17) k9
          have k20 := lk_q (frm_s f17) k10
          have H21 := isF_c f17 (fun a k q1 q2 => by omega) H11
          have H22 := mgT_c f17 (fun a k q => by omega) H12
          have H23 := abU_c f17 (fun a k q => by omega) H13
          have H24 := asS_c f17 (fun a k q => by omega) H14
          have FR25 := frm_t FR15 (frm_m (S' := (fun a k => (a = y ∧ k = 1) ∨ a = y + 1 ∨ a = y + 2 ∨ a = y + 5)) f17 (fun a k q => by omega))
          refine e_vret dX9_assign_60 rfl ⟨rfl, ?_⟩
          have B2 : ∀ x : Int, 0 ≤ x → x < 6 → rI h16 (y + 1) x = rI h (y + 2) x := fun x a b => ((cpy6 e18 a b)).trans ((frm_r f8 (by omega)))
          exact kq _ FR25 (asP_leaf wf (by omega) (by omega) pa HU HV HA (by omega) (show rI h16 y 1 = s from ((frm_r f17 (by omega)).trans (rI_eq e7 ⟨by omega, by omega⟩))) B2) H24
        · skip
          skip
          refine e_iload_n dX9_assign_34 rfl ?_
          refine z_bipush (6) dX9_assign_35 rfl ?_
          refine z_icmp_lt 61 dX9_assign_37 rfl ⟨by omega, by omega⟩ ⟨by omega, by omega⟩ (fun c26 => ?_) (fun c26 => ?_)
          · skip
            refine z_iconst (0) dX9_assign_61 rfl ?_
            refine e_istore (L' := [_, _, _, _, _, _]) dX9_assign_62 (Nat.le_of_ble_eq_true rfl) rfl ?_
            have lp27 : ∀ (n27 : Nat) (d u : Int) (h27 : mH), (nd g - d).toNat = n27 → (wkk h27 y) → (fgk h27 f) → (isF h27 f g) → (mgT h27 y g) → (abU h27 y g) → (asS h27 y w 3) → (frm (fun a k => (a = y ∧ k = 1) ∨ a = y + 1 ∨ a = y + 2 ∨ a = y + 5) h h27) → (0 ≤ d ∧ d ≤ nd g) → (fmax (vaW g) (suW g) (cdZ w 3 + d * scZ (3 + 1)) u) → (bsS h27 y g u) → mEv TB0 ad M_X9_assign (dd + 6) (0, 0) (mCal TB0 ad (dd + 5)) (fun v h' z => z.1 = 0 ∧ Q v h') 64 [some (.ref y), some (.ref f), some (.int (zI 3)), some (.int (zI s)), some (.int (zI d)), none] [] h27 (0, 0) := by
              intro n27
              induction n27 using Nat.strongRecOn with
              | ind n27 ih27 =>
              intro d u h27 hn27 k28 k29 H30 H31 H32 H33 FR34 I1 IF IB
              refine e_iload dX9_assign_64 rfl ?_
              have ib := bsS_b W.2.2 IB
              refine e_aload_n dX9_assign_66 rfl ?_
              refine e_get (.ref (f + 1)) dX9_assign_67 tf_9_84 (congrArg Prod.fst (fg_s0 k29)) (congrArg va_rf (fg_r0_0 k29)) ?_
              refine z_get (nd g) dX9_assign_70 tf_9_88 (congrArg Prod.fst (fg_s1 k29)) (Or.inl rfl) (isF_nd H30) ?_
              have y35 := isF_n H30
              refine z_icmp_ge 176 dX9_assign_73 rfl ⟨by omega, by omega⟩ ⟨by omega, by omega⟩ (fun c36 => ?_) (fun c36 => ?_)
              · skip
                have I6 := asP_hi (c := 3) (by omega) (by omega) (by omega) (by omega) pa (6 - d).toNat d (by omega) (by omega) IF
                refine e_aload_n dX9_assign_176 rfl ?_
                refine e_get (.ref (y + 2)) dX9_assign_177 tf_9_19 (congrArg Prod.fst (wk_s0 k28)) (congrArg va_rf (wk_r0_2 k28)) ?_
                refine e_iload_n dX9_assign_180 rfl ?_
                refine z_bipush (6) dX9_assign_181 rfl ?_
                refine z_ist dX9_assign_183 (wk_s2 k28) (by decide) (by omega) (by omega) (fun h37 e38 => ?_)
                have f39 := frm_1 e38
                have k40 := lk_q (frm_s f39) k28
                have k41 := lk_q (frm_s f39) k29
                have H42 := isF_c f39 (fun a k q1 q2 => by omega) H30
                have H43 := mgT_c f39 (fun a k q => by omega) H31
                have H44 := abU_c f39 (fun a k q => by omega) H32
                have H45 := bsS_c f39 (fun a k q => by omega) IB
                have FR46 := frm_t FR34 (frm_m (S' := (fun a k => (a = y ∧ k = 1) ∨ a = y + 1 ∨ a = y + 2 ∨ a = y + 5)) f39 (fun a k q => by omega))
                have A47 : asS h37 y (setG w 3 6) (3 + 1) := asS_6 H33 (by omega) (fun e a b => (frm_r f39 (by omega))) (by exact (rI_eq e38 ⟨by omega, by omega⟩)) (fun e a b => (frm_r f39 (by omega)))
                have pin := asP_in (c := 3) (d := 6) (by omega) pa I6 rfl (Or.inl (if_pos rfl)) s (by rw [if_neg (by omega)]; omega)
                refine e_aload_n dX9_assign_184 rfl ?_
                refine e_aload_n dX9_assign_185 rfl ?_
                refine e_iload_n dX9_assign_186 rfl ?_
                refine z_iconst (1) dX9_assign_187 rfl ?_
                refine z_iadd dX9_assign_188 ?_
                refine e_iload_n dX9_assign_189 rfl ?_
                refine e_callV [.ref _, .int _, .int _] dX9_assign_190 tm_9_52 rfl (Nat.le_of_ble_eq_true rfl) (congrArg Prod.fst (wk_s0 k40)) (Nat.le_of_ble_eq_true rfl) (Nat.le_refl _) (Nat.le_refl _) rfl (zp_X9_assign_4 k40 k41 H42 H43 H44 A47 H45 s ⟨by omega, by omega⟩ (by omega) pin (by omega) (fun  h48 f49 p50 p51 => ?_))
                have k52 := lk_q (frm_s f49) k40
                have k53 := lk_q (frm_s f49) k41
                have H54 := isF_c f49 (fun a k q1 q2 => by omega) H42
                have H55 := mgT_c f49 (fun a k q => by omega) H43
                have H56 := abU_c f49 (fun a k q => by omega) H44
                have FR57 := frm_t FR46 (frm_m (S' := (fun a k => (a = y ∧ k = 1) ∨ a = y + 1 ∨ a = y + 2 ∨ a = y + 5)) f49 (fun a k q => by omega))
                skip
                refine e_vret dX9_assign_193 rfl ⟨rfl, ?_⟩
                have ZZ : cdZ (setG w 3 6) (3 + 1) + scZ (3 + 1) = cdZ w 3 + scZ 3 := by rw [cd_set (by omega), (sc_s (n := 3) (by omega) (by omega)).1]; omega
                exact kq _ FR57 (by rw [← ZZ]; exact p50) (asS_q p51 (by omega))
              · skip
                refine e_iload dX9_assign_76 rfl ?_
                refine z_bipush (6) dX9_assign_78 rfl ?_
                refine z_icmp_ge 176 dX9_assign_80 rfl ⟨by omega, by omega⟩ ⟨by omega, by omega⟩ (fun c58 => ?_) (fun c58 => ?_)
                · skip
                  have I6 := asP_hi (c := 3) (by omega) (by omega) (by omega) (by omega) pa (6 - d).toNat d (by omega) (by omega) IF
                  refine e_aload_n dX9_assign_176 rfl ?_
                  refine e_get (.ref (y + 2)) dX9_assign_177 tf_9_19 (congrArg Prod.fst (wk_s0 k28)) (congrArg va_rf (wk_r0_2 k28)) ?_
                  refine e_iload_n dX9_assign_180 rfl ?_
                  refine z_bipush (6) dX9_assign_181 rfl ?_
                  refine z_ist dX9_assign_183 (wk_s2 k28) (by decide) (by omega) (by omega) (fun h59 e60 => ?_)
                  have f61 := frm_1 e60
                  have k62 := lk_q (frm_s f61) k28
                  have k63 := lk_q (frm_s f61) k29
                  have H64 := isF_c f61 (fun a k q1 q2 => by omega) H30
                  have H65 := mgT_c f61 (fun a k q => by omega) H31
                  have H66 := abU_c f61 (fun a k q => by omega) H32
                  have H67 := bsS_c f61 (fun a k q => by omega) IB
                  have FR68 := frm_t FR34 (frm_m (S' := (fun a k => (a = y ∧ k = 1) ∨ a = y + 1 ∨ a = y + 2 ∨ a = y + 5)) f61 (fun a k q => by omega))
                  have A69 : asS h59 y (setG w 3 6) (3 + 1) := asS_6 H33 (by omega) (fun e a b => (frm_r f61 (by omega))) (by exact (rI_eq e60 ⟨by omega, by omega⟩)) (fun e a b => (frm_r f61 (by omega)))
                  have pin := asP_in (c := 3) (d := 6) (by omega) pa I6 rfl (Or.inl (if_pos rfl)) s (by rw [if_neg (by omega)]; omega)
                  refine e_aload_n dX9_assign_184 rfl ?_
                  refine e_aload_n dX9_assign_185 rfl ?_
                  refine e_iload_n dX9_assign_186 rfl ?_
                  refine z_iconst (1) dX9_assign_187 rfl ?_
                  refine z_iadd dX9_assign_188 ?_
                  refine e_iload_n dX9_assign_189 rfl ?_
                  refine e_callV [.ref _, .int _, .int _] dX9_assign_190 tm_9_52 rfl (Nat.le_of_ble_eq_true rfl) (congrArg Prod.fst (wk_s0 k62)) (Nat.le_of_ble_eq_true rfl) (Nat.le_refl _) (Nat.le_refl _) rfl (zp_X9_assign_4 k62 k63 H64 H65 H66 A69 H67 s ⟨by omega, by omega⟩ (by omega) pin (by omega) (fun  h70 f71 p72 p73 => ?_))
                  have k74 := lk_q (frm_s f71) k62
                  have k75 := lk_q (frm_s f71) k63
                  have H76 := isF_c f71 (fun a k q1 q2 => by omega) H64
                  have H77 := mgT_c f71 (fun a k q => by omega) H65
                  have H78 := abU_c f71 (fun a k q => by omega) H66
                  have FR79 := frm_t FR68 (frm_m (S' := (fun a k => (a = y ∧ k = 1) ∨ a = y + 1 ∨ a = y + 2 ∨ a = y + 5)) f71 (fun a k q => by omega))
                  skip
                  refine e_vret dX9_assign_193 rfl ⟨rfl, ?_⟩
                  have ZZ : cdZ (setG w 3 6) (3 + 1) + scZ (3 + 1) = cdZ w 3 + scZ 3 := by rw [cd_set (by omega), (sc_s (n := 3) (by omega) (by omega)).1]; omega
                  exact kq _ FR79 (by rw [← ZZ]; exact p72) (asS_q p73 (by omega))
                · skip
                  refine e_aload_n dX9_assign_83 rfl ?_
                  refine e_get (.ref (y + 5)) dX9_assign_84 tf_9_29 (congrArg Prod.fst (wk_s0 k28)) (congrArg va_rf (wk_r0_5 k28)) ?_
                  refine e_iload dX9_assign_87 rfl ?_
                  refine z_ild (rI h27 (y + 5) d) dX9_assign_89 (wk_s5 k28) (by decide) (by omega) (by omega) rfl ?_
                  have y80 := ((H33).1 d (by omega) (by omega)).1
                  refine z_iconst (1) dX9_assign_90 rfl ?_
                  refine e_iload_n dX9_assign_91 rfl ?_
                  refine z_ishl dX9_assign_92 (by omega) (by omega) (by omega) (by omega) ?_
                  have y81 := shlZ_b 1 3
                  refine z_ior dX9_assign_93 (by omega) (by omega) (by omega) (by omega) ?_
                  have y82 := orZ_b (rI h27 (y + 5) d) (shlZ 1 3)
                  refine e_istore (L' := [_, _, _, _, _, _]) dX9_assign_94 (Nat.le_of_ble_eq_true rfl) rfl ?_
                  have hS := asS_h H33 (c := 3) (d := d) (by omega) (by omega)
                  have ob := or_b (k := 3) ((H33).1 d (by omega) (by omega)).1.2 (by omega)
                  have ob : 0 ≤ (orZ (rI h27 (y + 5) d) (shlZ 1 3)) ∧ (orZ (rI h27 (y + 5) d) (shlZ 1 3)) < 64 := ob
                  refine e_aload_n dX9_assign_96 rfl ?_
                  refine e_iload dX9_assign_97 rfl ?_
                  refine e_callV [.int _] dX9_assign_99 tm_9_93 rfl (Nat.le_of_ble_eq_true rfl) (congrArg Prod.fst (fg_s0 k29)) (Nat.le_of_ble_eq_true rfl) (Nat.le_refl _) (Nat.le_refl _) rfl (zp_X2_upOf k29 H30 d ⟨by omega, by omega⟩ ?_)
                  have y83 := upv_s (isF_w H30) d
                  refine z_iconst (-1) dX9_assign_102 rfl ?_
                  refine z_icmp_eq 170 dX9_assign_103 rfl ⟨by omega, by omega⟩ ⟨by omega, by omega⟩ (fun c84 => ?_) (fun c84 => ?_)
                  · skip
                    have nok : ¬ okD g (setG w 3 d) 3 := as_no (by omega) (by omega) (by omega) (by omega) hS (Or.inl (by omega))
                    refine z_iinc (L' := [_, _, _, _, _, _]) dX9_assign_170 rfl rfl ?_
                    refine e_goto 64 dX9_assign_173 rfl ?_
                    exact mEv_wk (by exact ⟨Or.inr rfl, Or.inr rfl, Or.inr rfl, Or.inr rfl, Or.inr rfl, Or.inl rfl, trivial⟩) (ih27 _ (by omega) (d + 1) u h27 rfl k28 k29 H30 H31 H32 H33 FR34 (by omega) (asP_sk (c := 3) (d := d) (by omega) (by omega) (by omega) (by omega) (by omega) pa IF rfl (by rw [Int.add_mul, Int.one_mul]; omega) nok) IB)
                  · skip
                    refine e_aload_n dX9_assign_106 rfl ?_
                    refine e_get (.ref (y + 4)) dX9_assign_107 tf_9_25 (congrArg Prod.fst (wk_s0 k28)) (congrArg va_rf (wk_r0_4 k28)) ?_
                    refine e_iload dX9_assign_110 rfl ?_
                    refine z_bipush (64) dX9_assign_112 rfl ?_
                    refine z_imul dX9_assign_114 ?_
                    refine e_iload dX9_assign_115 rfl ?_
                    refine z_iadd dX9_assign_117 ?_
                    refine z_zld (rI h27 (y + 4) ((d * 64) + (orZ (rI h27 (y + 5) d) (shlZ 1 3)))) dX9_assign_118 (wk_s4 k28) (by decide) (by omega) (by omega) rfl ?_
                    have y85 := mgT_b H31 (d := d) (s := (orZ (rI h27 (y + 5) d) (shlZ 1 3))) (by omega) (by omega) (by omega) (by omega)
                    refine z_if_eq 170 dX9_assign_119 rfl ⟨by omega, by omega⟩ (fun c86 => ?_) (fun c86 => ?_)
                    · skip
                      have nok : ¬ okD g (setG w 3 d) 3 := as_no (by omega) (by omega) (by omega) (by omega) hS (Or.inr (mgT_0 H31 (by omega) (by omega) (by omega) (by omega) (by assumption)))
                      refine z_iinc (L' := [_, _, _, _, _, _]) dX9_assign_170 rfl rfl ?_
                      refine e_goto 64 dX9_assign_173 rfl ?_
                      exact mEv_wk (by exact ⟨Or.inr rfl, Or.inr rfl, Or.inr rfl, Or.inr rfl, Or.inr rfl, Or.inl rfl, trivial⟩) (ih27 _ (by omega) (d + 1) u h27 rfl k28 k29 H30 H31 H32 H33 FR34 (by omega) (asP_sk (c := 3) (d := d) (by omega) (by omega) (by omega) (by omega) (by omega) pa IF rfl (by rw [Int.add_mul, Int.one_mul]; omega) nok) IB)
                    · skip
                      have mgy : mgP g d (orZ (rI h27 (y + 5) d) (shlZ 1 3)) := mgT_1 H31 (by omega) (by omega) (by omega) (by omega) (by assumption)
                      refine e_aload_n dX9_assign_122 rfl ?_
                      refine e_get (.ref (y + 5)) dX9_assign_123 tf_9_29 (congrArg Prod.fst (wk_s0 k28)) (congrArg va_rf (wk_r0_5 k28)) ?_
                      refine e_iload dX9_assign_126 rfl ?_
                      refine e_iload dX9_assign_128 rfl ?_
                      refine z_ist dX9_assign_130 (wk_s5 k28) (by decide) (by omega) (by omega) (fun h87 e88 => ?_)
                      have f89 := frm_1 e88
                      have k90 := lk_q (frm_s f89) k28
                      have k91 := lk_q (frm_s f89) k29
                      have H92 := isF_c f89 (fun a k q1 q2 => by omega) H30
                      have H93 := mgT_c f89 (fun a k q => by omega) H31
                      have H94 := abU_c f89 (fun a k q => by omega) H32
                      have H95 := bsS_c f89 (fun a k q => by omega) IB
                      have FR96 := frm_t FR34 (frm_m (S' := (fun a k => (a = y ∧ k = 1) ∨ a = y + 1 ∨ a = y + 2 ∨ a = y + 5)) f89 (fun a k q => by omega))
                      refine e_aload_n dX9_assign_131 rfl ?_
                      refine e_get (.ref (y + 2)) dX9_assign_132 tf_9_19 (congrArg Prod.fst (wk_s0 k90)) (congrArg va_rf (wk_r0_2 k90)) ?_
                      refine e_iload_n dX9_assign_135 rfl ?_
                      refine e_iload dX9_assign_136 rfl ?_
                      refine z_ist dX9_assign_138 (wk_s2 k90) (by decide) (by omega) (by omega) (fun h97 e98 => ?_)
                      have f99 := frm_1 e98
                      have k100 := lk_q (frm_s f99) k90
                      have k101 := lk_q (frm_s f99) k91
                      have H102 := isF_c f99 (fun a k q1 q2 => by omega) H92
                      have H103 := mgT_c f99 (fun a k q => by omega) H93
                      have H104 := abU_c f99 (fun a k q => by omega) H94
                      have H105 := bsS_c f99 (fun a k q => by omega) H95
                      have FR106 := frm_t FR96 (frm_m (S' := (fun a k => (a = y ∧ k = 1) ∨ a = y + 1 ∨ a = y + 2 ∨ a = y + 5)) f99 (fun a k q => by omega))
                      have A107 : asS h97 y (setG w 3 d) (3 + 1) := asS_y H33 (by omega) (by omega) (by omega) rfl (by exact ((frm_r f99 (by omega)).trans (rI_eq e88 ⟨by omega, by omega⟩))) (fun e a b n => ((frm_r f99 (by omega)).trans (frm_r f89 (by omega)))) (by exact (rI_eq e98 ⟨by omega, by omega⟩)) (fun e a b => ((frm_r f99 (by omega)).trans (frm_r f89 (by omega))))
                      have oky : okD g (setG w 3 d) 3 := as_ok (by omega) (by omega) (by omega) (by omega) (by omega) hS mgy
                      have pin := asP_in (c := 3) (d := d) (by omega) pa IF rfl oky (s + pr g 3) (by rw [if_pos (by omega)])
                      refine e_aload_n dX9_assign_139 rfl ?_
                      refine e_aload_n dX9_assign_140 rfl ?_
                      refine e_iload_n dX9_assign_141 rfl ?_
                      refine z_iconst (1) dX9_assign_142 rfl ?_
                      refine z_iadd dX9_assign_143 ?_
                      refine e_iload_n dX9_assign_144 rfl ?_
                      refine e_aload_n dX9_assign_145 rfl ?_
                      refine e_get (.ref (f + 14)) dX9_assign_146 tf_9_75 (congrArg Prod.fst (fg_s0 k101)) (congrArg va_rf (fg_r0_3 k101)) ?_
                      refine e_iload_n dX9_assign_149 rfl ?_
                      refine z_ild (pr g 3) dX9_assign_150 (fg_s14 k101) (by decide) (by omega) (by omega) (isF_pr H102 (by omega) (by omega)) ?_
                      have y108 := wC_c (isF_w H102).2.2 (show 0 ≤ 3 by omega) (by omega)
                      refine z_iadd dX9_assign_151 ?_
                      refine e_callV [.ref _, .int _, .int _] dX9_assign_152 tm_9_52 rfl (Nat.le_of_ble_eq_true rfl) (congrArg Prod.fst (wk_s0 k100)) (Nat.le_of_ble_eq_true rfl) (Nat.le_refl _) (Nat.le_refl _) rfl (zp_X9_assign_4 k100 k101 H102 H103 H104 A107 H105 (s + (pr g 3)) ⟨by omega, by omega⟩ (by omega) pin (by omega) (fun  h109 f110 p111 p112 => ?_))
                      have k113 := lk_q (frm_s f110) k100
                      have k114 := lk_q (frm_s f110) k101
                      have H115 := isF_c f110 (fun a k q1 q2 => by omega) H102
                      have H116 := mgT_c f110 (fun a k q => by omega) H103
                      have H117 := abU_c f110 (fun a k q => by omega) H104
                      have FR118 := frm_t FR106 (frm_m (S' := (fun a k => (a = y ∧ k = 1) ∨ a = y + 1 ∨ a = y + 2 ∨ a = y + 5)) f110 (fun a k q => by omega))
                      obtain ⟨u2, F2, B2⟩ := p111
                      refine e_aload_n dX9_assign_155 rfl ?_
                      refine e_get (.ref (y + 5)) dX9_assign_156 tf_9_29 (congrArg Prod.fst (wk_s0 k113)) (congrArg va_rf (wk_r0_5 k113)) ?_
                      refine e_iload dX9_assign_159 rfl ?_
                      refine e_iload dX9_assign_161 rfl ?_
                      refine z_iconst (1) dX9_assign_163 rfl ?_
                      refine e_iload_n dX9_assign_164 rfl ?_
                      refine z_ishl dX9_assign_165 (by omega) (by omega) (by omega) (by omega) ?_
                      have y119 := shlZ_b 1 3
                      refine z_iconst (-1) dX9_assign_166 rfl ?_
                      refine z_inot dX9_assign_167 (by omega) ?_
                      refine z_iandn dX9_assign_168 (by omega) (by omega) ?_
                      have y120 := subS_b (orZ (rI h27 (y + 5) d) (shlZ 1 3)) (shlZ 1 3)
                      refine z_ist dX9_assign_169 (wk_s5 k113) (by decide) (by omega) (by omega) (fun h121 e122 => ?_)
                      have f123 := frm_1 e122
                      have k124 := lk_q (frm_s f123) k113
                      have k125 := lk_q (frm_s f123) k114
                      have H126 := isF_c f123 (fun a k q1 q2 => by omega) H115
                      have H127 := mgT_c f123 (fun a k q => by omega) H116
                      have H128 := abU_c f123 (fun a k q => by omega) H117
                      have FR129 := frm_t FR118 (frm_m (S' := (fun a k => (a = y ∧ k = 1) ∨ a = y + 1 ∨ a = y + 2 ∨ a = y + 5)) f123 (fun a k q => by omega))
                      have A130 : asS h121 y w 3 := asS_z p112 (by omega) (by omega) (by omega) hS ob (by exact (rI_eq e122 ⟨by omega, by omega⟩)) (fun e a b n => (frm_r f123 (by omega))) (fun e a b => (frm_r f123 (by omega)))
                      have B131 := bsS_c f123 (fun a k q => by omega) B2
                      refine z_iinc (L' := [_, _, _, _, _, _]) dX9_assign_170 rfl rfl ?_
                      refine e_goto 64 dX9_assign_173 rfl ?_
                      exact mEv_wk (by exact ⟨Or.inr rfl, Or.inr rfl, Or.inr rfl, Or.inr rfl, Or.inr rfl, Or.inl rfl, trivial⟩) (ih27 _ (by omega) (d + 1) u2 h121 rfl k124 k125 H126 H127 H128 A130 FR129 (by omega) (by have zz : cdZ (setG w 3 d) (3 + 1) + scZ (3 + 1) = cdZ w 3 + (d + 1) * scZ (3 + 1) := (by rw [cd_set (by omega), Int.add_mul, Int.one_mul]; omega); rw [← zz]; exact F2) B131)
            exact lp27 _ 0 v h rfl hk hk1 HF HT HU HA FR0 (by omega) (by rw [Int.zero_mul, Int.add_zero]; exact pa.2.2) HV
          · exfalso; omega
      · skip
        skip
        refine e_vret dX9_assign_25 rfl ⟨rfl, ?_⟩
        exact kq _ FR0 (asP_prune wf (by omega) pn pa HU HV (by omega)) HA
set_option maxHeartbeats 4000000 in
theorem zp_X9_assign_2 {ad : mA} {dd : Nat} {h : mH} {Q : mQ} {y f : Nat} {g w : Int → Int} {v : Int} (hk : wkk h y) (hk1 : fgk h f) (HF : isF h f g) (HT : mgT h y g) (HU : abU h y g) (HA : asS h y w 2) (HV : bsS h y g v)  (s : Int) (s_r : -2147483648 ≤ s ∧ s < 2147483648) (pn : (2 : Int) ≤ nc g) (pa : asP g w 2 s v) (pf : y + 7 ≤ f ∨ f + 16 ≤ y) (kq : ∀ h1, frm (fun a k => (a = y ∧ k = 1) ∨ a = y + 1 ∨ a = y + 2 ∨ a = y + 5) h h1 → (asE h1 y g (cdZ w 2 + scZ 2)) → (asS h1 y w 2) → Q none h1) : mCal TB0 ad (dd + 7) M_X9_assign [.ref y, .ref f, .int (zI 2), .int (zI s)] h 0 0 Q := by
  refine ⟨Nat.le_of_ble_eq_true rfl, ?_⟩
  show mEv TB0 ad M_X9_assign (dd + 7) (0, 0) (mCal TB0 ad (dd + 6)) (fun v h' z => z.1 = 0 ∧ Q v h') 0 [some (.ref y), some (.ref f), some (.int (zI 2)), some (.int (zI s)), none, none] [] h (0, 0)
  have FR0 : frm (fun a k => (a = y ∧ k = 1) ∨ a = y + 1 ∨ a = y + 2 ∨ a = y + 5) h h := frm_0 h
  have w1 := isF_n HF
  have w2 := isF_nd HF
  have w3 := isF_nu HF
  have w4 := isF_nc HF
  have W := isF_w HF
  have wf := isF_w HF
  have sb := asP_b W.2.2 (by omega) pn pa
  have ub := abU_b HU (c := 2) (by omega) (by omega)
  have bb := bsS_b W.2.2 HV
  refine e_iload_n dX9_assign_0 rfl ?_
  refine z_if_lt 25 dX9_assign_1 rfl ⟨by omega, by omega⟩ (fun c1 => ?_) (fun c1 => ?_)
  · exfalso; omega
  · skip
    refine e_iload_n dX9_assign_4 rfl ?_
    refine z_bipush (6) dX9_assign_5 rfl ?_
    refine z_icmp_gt 25 dX9_assign_7 rfl ⟨by omega, by omega⟩ ⟨by omega, by omega⟩ (fun c2 => ?_) (fun c2 => ?_)
    · exfalso; omega
    · skip
      refine e_iload_n dX9_assign_10 rfl ?_
      refine e_aload_n dX9_assign_11 rfl ?_
      refine e_get (.ref (y + 6)) dX9_assign_12 tf_9_32 (congrArg Prod.fst (wk_s0 hk)) (congrArg va_rf (wk_r0_6 hk)) ?_
      refine e_iload_n dX9_assign_15 rfl ?_
      refine z_ild (rI h (y + 6) 2) dX9_assign_16 (wk_s6 hk) (by decide) (by omega) (by omega) rfl ?_
      refine z_iadd dX9_assign_17 ?_
      refine e_aload_n dX9_assign_18 rfl ?_
      refine z_get (rI h y 1) dX9_assign_19 tf_9_15 (congrArg Prod.fst (wk_s0 hk)) (Or.inl rfl) rfl ?_
      refine z_icmp_gt 26 dX9_assign_22 rfl ⟨by omega, by omega⟩ ⟨by omega, by omega⟩ (fun c3 => ?_) (fun c3 => ?_)
      · skip
        refine e_iload_n dX9_assign_26 rfl ?_
        refine e_aload_n dX9_assign_27 rfl ?_
        refine z_get (nc g) dX9_assign_28 tf_9_56 (congrArg Prod.fst (fg_s0 hk1)) (Or.inl rfl) (isF_nc HF) ?_
        have y4 := isF_n HF
        refine z_icmp_ge 40 dX9_assign_31 rfl ⟨by omega, by omega⟩ ⟨by omega, by omega⟩ (fun c5 => ?_) (fun c5 => ?_)
        · skip
          skip
          refine e_aload_n dX9_assign_40 rfl ?_
          refine e_iload_n dX9_assign_41 rfl ?_
          refine z_put dX9_assign_42 tf_9_15 (congrArg Prod.fst (wk_s0 hk)) rfl (Or.inl rfl) (fun h6 e7 => ?_)
          have f8 := frm_1 e7
          have k9 := lk_q (frm_s f8) hk
          have k10 := lk_q (frm_s f8) hk1
          have H11 := isF_c f8 (fun a k q1 q2 => by omega) HF
          have H12 := mgT_c f8 (fun a k q => by omega) HT
          have H13 := abU_c f8 (fun a k q => by omega) HU
          have H14 := asS_c f8 (fun a k q => by omega) HA
          have FR15 := frm_t FR0 (frm_m (S' := (fun a k => (a = y ∧ k = 1) ∨ a = y + 1 ∨ a = y + 2 ∨ a = y + 5)) f8 (fun a k q => by omega))
          refine e_aload_n dX9_assign_45 rfl ?_
          refine e_get (.ref (y + 2)) dX9_assign_46 tf_9_19 (congrArg Prod.fst (wk_s0 k9)) (congrArg va_rf (wk_r0_2 k9)) ?_
          refine z_iconst (0) dX9_assign_49 rfl ?_
          refine e_aload_n dX9_assign_50 rfl ?_
          refine e_get (.ref (y + 1)) dX9_assign_51 tf_9_9 (congrArg Prod.fst (wk_s0 k9)) (congrArg va_rf (wk_r0_0 k9)) ?_
          refine z_iconst (0) dX9_assign_54 rfl ?_
          refine z_bipush (6) dX9_assign_55 rfl ?_
          refine z_cpy dX9_assign_57 tm_9_78 (Nat.le_of_ble_eq_true rfl) (wk_s1 k9) (wk_s2 k9) (by decide) (by decide) (by omega) (by omega) (by omega) (by omega) (by omega) (fun h16 f17 e18 => ?_)
          have k19 := lk_q (frm_s f17) k9
          have k20 := lk_q (frm_s f17) k10
          have H21 := isF_c f17 (fun a k q1 q2 => by omega) H11
          have H22 := mgT_c f17 (fun a k q => by omega) H12
          have H23 := abU_c f17 (fun a k q => by omega) H13
          have H24 := asS_c f17 (fun a k q => by omega) H14
          have FR25 := frm_t FR15 (frm_m (S' := (fun a k => (a = y ∧ k = 1) ∨ a = y + 1 ∨ a = y + 2 ∨ a = y + 5)) f17 (fun a k q => by omega))
          refine e_vret dX9_assign_60 rfl ⟨rfl, ?_⟩
          have B2 : ∀ x : Int, 0 ≤ x → x < 6 → rI h16 (y + 1) x = rI h (y + 2) x := fun x a b => ((cpy6 e18 a b)).trans ((frm_r f8 (by omega)))
          exact kq _ FR25 (asP_leaf wf (by omega) (by omega) pa HU HV HA (by omega) (show rI h16 y 1 = s from ((frm_r f17 (by omega)).trans (rI_eq e7 ⟨by omega, by omega⟩))) B2) H24
        · skip
          skip
          refine e_iload_n dX9_assign_34 rfl ?_
          refine z_bipush (6) dX9_assign_35 rfl ?_
          refine z_icmp_lt 61 dX9_assign_37 rfl ⟨by omega, by omega⟩ ⟨by omega, by omega⟩ (fun c26 => ?_) (fun c26 => ?_)
          · skip
            refine z_iconst (0) dX9_assign_61 rfl ?_
            refine e_istore (L' := [_, _, _, _, _, _]) dX9_assign_62 (Nat.le_of_ble_eq_true rfl) rfl ?_
            have lp27 : ∀ (n27 : Nat) (d u : Int) (h27 : mH), (nd g - d).toNat = n27 → (wkk h27 y) → (fgk h27 f) → (isF h27 f g) → (mgT h27 y g) → (abU h27 y g) → (asS h27 y w 2) → (frm (fun a k => (a = y ∧ k = 1) ∨ a = y + 1 ∨ a = y + 2 ∨ a = y + 5) h h27) → (0 ≤ d ∧ d ≤ nd g) → (fmax (vaW g) (suW g) (cdZ w 2 + d * scZ (2 + 1)) u) → (bsS h27 y g u) → mEv TB0 ad M_X9_assign (dd + 7) (0, 0) (mCal TB0 ad (dd + 6)) (fun v h' z => z.1 = 0 ∧ Q v h') 64 [some (.ref y), some (.ref f), some (.int (zI 2)), some (.int (zI s)), some (.int (zI d)), none] [] h27 (0, 0) := by
              intro n27
              induction n27 using Nat.strongRecOn with
              | ind n27 ih27 =>
              intro d u h27 hn27 k28 k29 H30 H31 H32 H33 FR34 I1 IF IB
              refine e_iload dX9_assign_64 rfl ?_
              have ib := bsS_b W.2.2 IB
              refine e_aload_n dX9_assign_66 rfl ?_
              refine e_get (.ref (f + 1)) dX9_assign_67 tf_9_84 (congrArg Prod.fst (fg_s0 k29)) (congrArg va_rf (fg_r0_0 k29)) ?_
              refine z_get (nd g) dX9_assign_70 tf_9_88 (congrArg Prod.fst (fg_s1 k29)) (Or.inl rfl) (isF_nd H30) ?_
              have y35 := isF_n H30
              refine z_icmp_ge 176 dX9_assign_73 rfl ⟨by omega, by omega⟩ ⟨by omega, by omega⟩ (fun c36 => ?_) (fun c36 => ?_)
              · skip
                have I6 := asP_hi (c := 2) (by omega) (by omega) (by omega) (by omega) pa (6 - d).toNat d (by omega) (by omega) IF
                refine e_aload_n dX9_assign_176 rfl ?_
                refine e_get (.ref (y + 2)) dX9_assign_177 tf_9_19 (congrArg Prod.fst (wk_s0 k28)) (congrArg va_rf (wk_r0_2 k28)) ?_
                refine e_iload_n dX9_assign_180 rfl ?_
                refine z_bipush (6) dX9_assign_181 rfl ?_
                refine z_ist dX9_assign_183 (wk_s2 k28) (by decide) (by omega) (by omega) (fun h37 e38 => ?_)
                have f39 := frm_1 e38
                have k40 := lk_q (frm_s f39) k28
                have k41 := lk_q (frm_s f39) k29
                have H42 := isF_c f39 (fun a k q1 q2 => by omega) H30
                have H43 := mgT_c f39 (fun a k q => by omega) H31
                have H44 := abU_c f39 (fun a k q => by omega) H32
                have H45 := bsS_c f39 (fun a k q => by omega) IB
                have FR46 := frm_t FR34 (frm_m (S' := (fun a k => (a = y ∧ k = 1) ∨ a = y + 1 ∨ a = y + 2 ∨ a = y + 5)) f39 (fun a k q => by omega))
                have A47 : asS h37 y (setG w 2 6) (2 + 1) := asS_6 H33 (by omega) (fun e a b => (frm_r f39 (by omega))) (by exact (rI_eq e38 ⟨by omega, by omega⟩)) (fun e a b => (frm_r f39 (by omega)))
                have pin := asP_in (c := 2) (d := 6) (by omega) pa I6 rfl (Or.inl (if_pos rfl)) s (by rw [if_neg (by omega)]; omega)
                refine e_aload_n dX9_assign_184 rfl ?_
                refine e_aload_n dX9_assign_185 rfl ?_
                refine e_iload_n dX9_assign_186 rfl ?_
                refine z_iconst (1) dX9_assign_187 rfl ?_
                refine z_iadd dX9_assign_188 ?_
                refine e_iload_n dX9_assign_189 rfl ?_
                refine e_callV [.ref _, .int _, .int _] dX9_assign_190 tm_9_52 rfl (Nat.le_of_ble_eq_true rfl) (congrArg Prod.fst (wk_s0 k40)) (Nat.le_of_ble_eq_true rfl) (Nat.le_refl _) (Nat.le_refl _) rfl (zp_X9_assign_3 k40 k41 H42 H43 H44 A47 H45 s ⟨by omega, by omega⟩ (by omega) pin (by omega) (fun  h48 f49 p50 p51 => ?_))
                have k52 := lk_q (frm_s f49) k40
                have k53 := lk_q (frm_s f49) k41
                have H54 := isF_c f49 (fun a k q1 q2 => by omega) H42
                have H55 := mgT_c f49 (fun a k q => by omega) H43
                have H56 := abU_c f49 (fun a k q => by omega) H44
                have FR57 := frm_t FR46 (frm_m (S' := (fun a k => (a = y ∧ k = 1) ∨ a = y + 1 ∨ a = y + 2 ∨ a = y + 5)) f49 (fun a k q => by omega))
                skip
                refine e_vret dX9_assign_193 rfl ⟨rfl, ?_⟩
                have ZZ : cdZ (setG w 2 6) (2 + 1) + scZ (2 + 1) = cdZ w 2 + scZ 2 := by rw [cd_set (by omega), (sc_s (n := 2) (by omega) (by omega)).1]; omega
                exact kq _ FR57 (by rw [← ZZ]; exact p50) (asS_q p51 (by omega))
              · skip
                refine e_iload dX9_assign_76 rfl ?_
                refine z_bipush (6) dX9_assign_78 rfl ?_
                refine z_icmp_ge 176 dX9_assign_80 rfl ⟨by omega, by omega⟩ ⟨by omega, by omega⟩ (fun c58 => ?_) (fun c58 => ?_)
                · skip
                  have I6 := asP_hi (c := 2) (by omega) (by omega) (by omega) (by omega) pa (6 - d).toNat d (by omega) (by omega) IF
                  refine e_aload_n dX9_assign_176 rfl ?_
                  refine e_get (.ref (y + 2)) dX9_assign_177 tf_9_19 (congrArg Prod.fst (wk_s0 k28)) (congrArg va_rf (wk_r0_2 k28)) ?_
                  refine e_iload_n dX9_assign_180 rfl ?_
                  refine z_bipush (6) dX9_assign_181 rfl ?_
                  refine z_ist dX9_assign_183 (wk_s2 k28) (by decide) (by omega) (by omega) (fun h59 e60 => ?_)
                  have f61 := frm_1 e60
                  have k62 := lk_q (frm_s f61) k28
                  have k63 := lk_q (frm_s f61) k29
                  have H64 := isF_c f61 (fun a k q1 q2 => by omega) H30
                  have H65 := mgT_c f61 (fun a k q => by omega) H31
                  have H66 := abU_c f61 (fun a k q => by omega) H32
                  have H67 := bsS_c f61 (fun a k q => by omega) IB
                  have FR68 := frm_t FR34 (frm_m (S' := (fun a k => (a = y ∧ k = 1) ∨ a = y + 1 ∨ a = y + 2 ∨ a = y + 5)) f61 (fun a k q => by omega))
                  have A69 : asS h59 y (setG w 2 6) (2 + 1) := asS_6 H33 (by omega) (fun e a b => (frm_r f61 (by omega))) (by exact (rI_eq e60 ⟨by omega, by omega⟩)) (fun e a b => (frm_r f61 (by omega)))
                  have pin := asP_in (c := 2) (d := 6) (by omega) pa I6 rfl (Or.inl (if_pos rfl)) s (by rw [if_neg (by omega)]; omega)
                  refine e_aload_n dX9_assign_184 rfl ?_
                  refine e_aload_n dX9_assign_185 rfl ?_
                  refine e_iload_n dX9_assign_186 rfl ?_
                  refine z_iconst (1) dX9_assign_187 rfl ?_
                  refine z_iadd dX9_assign_188 ?_
                  refine e_iload_n dX9_assign_189 rfl ?_
                  refine e_callV [.ref _, .int _, .int _] dX9_assign_190 tm_9_52 rfl (Nat.le_of_ble_eq_true rfl) (congrArg Prod.fst (wk_s0 k62)) (Nat.le_of_ble_eq_true rfl) (Nat.le_refl _) (Nat.le_refl _) rfl (zp_X9_assign_3 k62 k63 H64 H65 H66 A69 H67 s ⟨by omega, by omega⟩ (by omega) pin (by omega) (fun  h70 f71 p72 p73 => ?_))
                  have k74 := lk_q (frm_s f71) k62
                  have k75 := lk_q (frm_s f71) k63
                  have H76 := isF_c f71 (fun a k q1 q2 => by omega) H64
                  have H77 := mgT_c f71 (fun a k q => by omega) H65
                  have H78 := abU_c f71 (fun a k q => by omega) H66
                  have FR79 := frm_t FR68 (frm_m (S' := (fun a k => (a = y ∧ k = 1) ∨ a = y + 1 ∨ a = y + 2 ∨ a = y + 5)) f71 (fun a k q => by omega))
                  skip
                  refine e_vret dX9_assign_193 rfl ⟨rfl, ?_⟩
                  have ZZ : cdZ (setG w 2 6) (2 + 1) + scZ (2 + 1) = cdZ w 2 + scZ 2 := by rw [cd_set (by omega), (sc_s (n := 2) (by omega) (by omega)).1]; omega
                  exact kq _ FR79 (by rw [← ZZ]; exact p72) (asS_q p73 (by omega))
                · skip
                  refine e_aload_n dX9_assign_83 rfl ?_
                  refine e_get (.ref (y + 5)) dX9_assign_84 tf_9_29 (congrArg Prod.fst (wk_s0 k28)) (congrArg va_rf (wk_r0_5 k28)) ?_
                  refine e_iload dX9_assign_87 rfl ?_
                  refine z_ild (rI h27 (y + 5) d) dX9_assign_89 (wk_s5 k28) (by decide) (by omega) (by omega) rfl ?_
                  have y80 := ((H33).1 d (by omega) (by omega)).1
                  refine z_iconst (1) dX9_assign_90 rfl ?_
                  refine e_iload_n dX9_assign_91 rfl ?_
                  refine z_ishl dX9_assign_92 (by omega) (by omega) (by omega) (by omega) ?_
                  have y81 := shlZ_b 1 2
                  refine z_ior dX9_assign_93 (by omega) (by omega) (by omega) (by omega) ?_
                  have y82 := orZ_b (rI h27 (y + 5) d) (shlZ 1 2)
                  refine e_istore (L' := [_, _, _, _, _, _]) dX9_assign_94 (Nat.le_of_ble_eq_true rfl) rfl ?_
                  have hS := asS_h H33 (c := 2) (d := d) (by omega) (by omega)
                  have ob := or_b (k := 2) ((H33).1 d (by omega) (by omega)).1.2 (by omega)
                  have ob : 0 ≤ (orZ (rI h27 (y + 5) d) (shlZ 1 2)) ∧ (orZ (rI h27 (y + 5) d) (shlZ 1 2)) < 64 := ob
                  refine e_aload_n dX9_assign_96 rfl ?_
                  refine e_iload dX9_assign_97 rfl ?_
                  refine e_callV [.int _] dX9_assign_99 tm_9_93 rfl (Nat.le_of_ble_eq_true rfl) (congrArg Prod.fst (fg_s0 k29)) (Nat.le_of_ble_eq_true rfl) (Nat.le_refl _) (Nat.le_refl _) rfl (zp_X2_upOf k29 H30 d ⟨by omega, by omega⟩ ?_)
                  have y83 := upv_s (isF_w H30) d
                  refine z_iconst (-1) dX9_assign_102 rfl ?_
                  refine z_icmp_eq 170 dX9_assign_103 rfl ⟨by omega, by omega⟩ ⟨by omega, by omega⟩ (fun c84 => ?_) (fun c84 => ?_)
                  · skip
                    have nok : ¬ okD g (setG w 2 d) 2 := as_no (by omega) (by omega) (by omega) (by omega) hS (Or.inl (by omega))
                    refine z_iinc (L' := [_, _, _, _, _, _]) dX9_assign_170 rfl rfl ?_
                    refine e_goto 64 dX9_assign_173 rfl ?_
                    exact mEv_wk (by exact ⟨Or.inr rfl, Or.inr rfl, Or.inr rfl, Or.inr rfl, Or.inr rfl, Or.inl rfl, trivial⟩) (ih27 _ (by omega) (d + 1) u h27 rfl k28 k29 H30 H31 H32 H33 FR34 (by omega) (asP_sk (c := 2) (d := d) (by omega) (by omega) (by omega) (by omega) (by omega) pa IF rfl (by rw [Int.add_mul, Int.one_mul]; omega) nok) IB)
                  · skip
                    refine e_aload_n dX9_assign_106 rfl ?_
                    refine e_get (.ref (y + 4)) dX9_assign_107 tf_9_25 (congrArg Prod.fst (wk_s0 k28)) (congrArg va_rf (wk_r0_4 k28)) ?_
                    refine e_iload dX9_assign_110 rfl ?_
                    refine z_bipush (64) dX9_assign_112 rfl ?_
                    refine z_imul dX9_assign_114 ?_
                    refine e_iload dX9_assign_115 rfl ?_
                    refine z_iadd dX9_assign_117 ?_
                    refine z_zld (rI h27 (y + 4) ((d * 64) + (orZ (rI h27 (y + 5) d) (shlZ 1 2)))) dX9_assign_118 (wk_s4 k28) (by decide) (by omega) (by omega) rfl ?_
                    have y85 := mgT_b H31 (d := d) (s := (orZ (rI h27 (y + 5) d) (shlZ 1 2))) (by omega) (by omega) (by omega) (by omega)
                    refine z_if_eq 170 dX9_assign_119 rfl ⟨by omega, by omega⟩ (fun c86 => ?_) (fun c86 => ?_)
                    · skip
                      have nok : ¬ okD g (setG w 2 d) 2 := as_no (by omega) (by omega) (by omega) (by omega) hS (Or.inr (mgT_0 H31 (by omega) (by omega) (by omega) (by omega) (by assumption)))
                      refine z_iinc (L' := [_, _, _, _, _, _]) dX9_assign_170 rfl rfl ?_
                      refine e_goto 64 dX9_assign_173 rfl ?_
                      exact mEv_wk (by exact ⟨Or.inr rfl, Or.inr rfl, Or.inr rfl, Or.inr rfl, Or.inr rfl, Or.inl rfl, trivial⟩) (ih27 _ (by omega) (d + 1) u h27 rfl k28 k29 H30 H31 H32 H33 FR34 (by omega) (asP_sk (c := 2) (d := d) (by omega) (by omega) (by omega) (by omega) (by omega) pa IF rfl (by rw [Int.add_mul, Int.one_mul]; omega) nok) IB)
                    · skip
                      have mgy : mgP g d (orZ (rI h27 (y + 5) d) (shlZ 1 2)) := mgT_1 H31 (by omega) (by omega) (by omega) (by omega) (by assumption)
                      refine e_aload_n dX9_assign_122 rfl ?_
                      refine e_get (.ref (y + 5)) dX9_assign_123 tf_9_29 (congrArg Prod.fst (wk_s0 k28)) (congrArg va_rf (wk_r0_5 k28)) ?_
                      refine e_iload dX9_assign_126 rfl ?_
                      refine e_iload dX9_assign_128 rfl ?_
                      refine z_ist dX9_assign_130 (wk_s5 k28) (by decide) (by omega) (by omega) (fun h87 e88 => ?_)
                      have f89 := frm_1 e88
                      have k90 := lk_q (frm_s f89) k28
                      have k91 := lk_q (frm_s f89) k29
                      have H92 := isF_c f89 (fun a k q1 q2 => by omega) H30
                      have H93 := mgT_c f89 (fun a k q => by omega) H31
                      have H94 := abU_c f89 (fun a k q => by omega) H32
                      have H95 := bsS_c f89 (fun a k q => by omega) IB
                      have FR96 := frm_t FR34 (frm_m (S' := (fun a k => (a = y ∧ k = 1) ∨ a = y + 1 ∨ a = y + 2 ∨ a = y + 5)) f89 (fun a k q => by omega))
                      refine e_aload_n dX9_assign_131 rfl ?_
                      refine e_get (.ref (y + 2)) dX9_assign_132 tf_9_19 (congrArg Prod.fst (wk_s0 k90)) (congrArg va_rf (wk_r0_2 k90)) ?_
                      refine e_iload_n dX9_assign_135 rfl ?_
                      refine e_iload dX9_assign_136 rfl ?_
                      refine z_ist dX9_assign_138 (wk_s2 k90) (by decide) (by omega) (by omega) (fun h97 e98 => ?_)
                      have f99 := frm_1 e98
                      have k100 := lk_q (frm_s f99) k90
                      have k101 := lk_q (frm_s f99) k91
                      have H102 := isF_c f99 (fun a k q1 q2 => by omega) H92
                      have H103 := mgT_c f99 (fun a k q => by omega) H93
                      have H104 := abU_c f99 (fun a k q => by omega) H94
                      have H105 := bsS_c f99 (fun a k q => by omega) H95
                      have FR106 := frm_t FR96 (frm_m (S' := (fun a k => (a = y ∧ k = 1) ∨ a = y + 1 ∨ a = y + 2 ∨ a = y + 5)) f99 (fun a k q => by omega))
                      have A107 : asS h97 y (setG w 2 d) (2 + 1) := asS_y H33 (by omega) (by omega) (by omega) rfl (by exact ((frm_r f99 (by omega)).trans (rI_eq e88 ⟨by omega, by omega⟩))) (fun e a b n => ((frm_r f99 (by omega)).trans (frm_r f89 (by omega)))) (by exact (rI_eq e98 ⟨by omega, by omega⟩)) (fun e a b => ((frm_r f99 (by omega)).trans (frm_r f89 (by omega))))
                      have oky : okD g (setG w 2 d) 2 := as_ok (by omega) (by omega) (by omega) (by omega) (by omega) hS mgy
                      have pin := asP_in (c := 2) (d := d) (by omega) pa IF rfl oky (s + pr g 2) (by rw [if_pos (by omega)])
                      refine e_aload_n dX9_assign_139 rfl ?_
                      refine e_aload_n dX9_assign_140 rfl ?_
                      refine e_iload_n dX9_assign_141 rfl ?_
                      refine z_iconst (1) dX9_assign_142 rfl ?_
                      refine z_iadd dX9_assign_143 ?_
                      refine e_iload_n dX9_assign_144 rfl ?_
                      refine e_aload_n dX9_assign_145 rfl ?_
                      refine e_get (.ref (f + 14)) dX9_assign_146 tf_9_75 (congrArg Prod.fst (fg_s0 k101)) (congrArg va_rf (fg_r0_3 k101)) ?_
                      refine e_iload_n dX9_assign_149 rfl ?_
                      refine z_ild (pr g 2) dX9_assign_150 (fg_s14 k101) (by decide) (by omega) (by omega) (isF_pr H102 (by omega) (by omega)) ?_
                      have y108 := wC_c (isF_w H102).2.2 (show 0 ≤ 2 by omega) (by omega)
                      refine z_iadd dX9_assign_151 ?_
                      refine e_callV [.ref _, .int _, .int _] dX9_assign_152 tm_9_52 rfl (Nat.le_of_ble_eq_true rfl) (congrArg Prod.fst (wk_s0 k100)) (Nat.le_of_ble_eq_true rfl) (Nat.le_refl _) (Nat.le_refl _) rfl (zp_X9_assign_3 k100 k101 H102 H103 H104 A107 H105 (s + (pr g 2)) ⟨by omega, by omega⟩ (by omega) pin (by omega) (fun  h109 f110 p111 p112 => ?_))
                      have k113 := lk_q (frm_s f110) k100
                      have k114 := lk_q (frm_s f110) k101
                      have H115 := isF_c f110 (fun a k q1 q2 => by omega) H102
                      have H116 := mgT_c f110 (fun a k q => by omega) H103
                      have H117 := abU_c f110 (fun a k q => by omega) H104
                      have FR118 := frm_t FR106 (frm_m (S' := (fun a k => (a = y ∧ k = 1) ∨ a = y + 1 ∨ a = y + 2 ∨ a = y + 5)) f110 (fun a k q => by omega))
                      obtain ⟨u2, F2, B2⟩ := p111
                      refine e_aload_n dX9_assign_155 rfl ?_
                      refine e_get (.ref (y + 5)) dX9_assign_156 tf_9_29 (congrArg Prod.fst (wk_s0 k113)) (congrArg va_rf (wk_r0_5 k113)) ?_
                      refine e_iload dX9_assign_159 rfl ?_
                      refine e_iload dX9_assign_161 rfl ?_
                      refine z_iconst (1) dX9_assign_163 rfl ?_
                      refine e_iload_n dX9_assign_164 rfl ?_
                      refine z_ishl dX9_assign_165 (by omega) (by omega) (by omega) (by omega) ?_
                      have y119 := shlZ_b 1 2
                      refine z_iconst (-1) dX9_assign_166 rfl ?_
                      refine z_inot dX9_assign_167 (by omega) ?_
                      refine z_iandn dX9_assign_168 (by omega) (by omega) ?_
                      have y120 := subS_b (orZ (rI h27 (y + 5) d) (shlZ 1 2)) (shlZ 1 2)
                      refine z_ist dX9_assign_169 (wk_s5 k113) (by decide) (by omega) (by omega) (fun h121 e122 => ?_)
                      have f123 := frm_1 e122
                      have k124 := lk_q (frm_s f123) k113
                      have k125 := lk_q (frm_s f123) k114
                      have H126 := isF_c f123 (fun a k q1 q2 => by omega) H115
                      have H127 := mgT_c f123 (fun a k q => by omega) H116
                      have H128 := abU_c f123 (fun a k q => by omega) H117
                      have FR129 := frm_t FR118 (frm_m (S' := (fun a k => (a = y ∧ k = 1) ∨ a = y + 1 ∨ a = y + 2 ∨ a = y + 5)) f123 (fun a k q => by omega))
                      have A130 : asS h121 y w 2 := asS_z p112 (by omega) (by omega) (by omega) hS ob (by exact (rI_eq e122 ⟨by omega, by omega⟩)) (fun e a b n => (frm_r f123 (by omega))) (fun e a b => (frm_r f123 (by omega)))
                      have B131 := bsS_c f123 (fun a k q => by omega) B2
                      refine z_iinc (L' := [_, _, _, _, _, _]) dX9_assign_170 rfl rfl ?_
                      refine e_goto 64 dX9_assign_173 rfl ?_
                      exact mEv_wk (by exact ⟨Or.inr rfl, Or.inr rfl, Or.inr rfl, Or.inr rfl, Or.inr rfl, Or.inl rfl, trivial⟩) (ih27 _ (by omega) (d + 1) u2 h121 rfl k124 k125 H126 H127 H128 A130 FR129 (by omega) (by have zz : cdZ (setG w 2 d) (2 + 1) + scZ (2 + 1) = cdZ w 2 + (d + 1) * scZ (2 + 1) := (by rw [cd_set (by omega), Int.add_mul, Int.one_mul]; omega); rw [← zz]; exact F2) B131)
            exact lp27 _ 0 v h rfl hk hk1 HF HT HU HA FR0 (by omega) (by rw [Int.zero_mul, Int.add_zero]; exact pa.2.2) HV
          · exfalso; omega
      · skip
        skip
        refine e_vret dX9_assign_25 rfl ⟨rfl, ?_⟩
        exact kq _ FR0 (asP_prune wf (by omega) pn pa HU HV (by omega)) HA
set_option maxHeartbeats 4000000 in
theorem zp_X9_assign_1 {ad : mA} {dd : Nat} {h : mH} {Q : mQ} {y f : Nat} {g w : Int → Int} {v : Int} (hk : wkk h y) (hk1 : fgk h f) (HF : isF h f g) (HT : mgT h y g) (HU : abU h y g) (HA : asS h y w 1) (HV : bsS h y g v)  (s : Int) (s_r : -2147483648 ≤ s ∧ s < 2147483648) (pn : (1 : Int) ≤ nc g) (pa : asP g w 1 s v) (pf : y + 7 ≤ f ∨ f + 16 ≤ y) (kq : ∀ h1, frm (fun a k => (a = y ∧ k = 1) ∨ a = y + 1 ∨ a = y + 2 ∨ a = y + 5) h h1 → (asE h1 y g (cdZ w 1 + scZ 1)) → (asS h1 y w 1) → Q none h1) : mCal TB0 ad (dd + 8) M_X9_assign [.ref y, .ref f, .int (zI 1), .int (zI s)] h 0 0 Q := by
  refine ⟨Nat.le_of_ble_eq_true rfl, ?_⟩
  show mEv TB0 ad M_X9_assign (dd + 8) (0, 0) (mCal TB0 ad (dd + 7)) (fun v h' z => z.1 = 0 ∧ Q v h') 0 [some (.ref y), some (.ref f), some (.int (zI 1)), some (.int (zI s)), none, none] [] h (0, 0)
  have FR0 : frm (fun a k => (a = y ∧ k = 1) ∨ a = y + 1 ∨ a = y + 2 ∨ a = y + 5) h h := frm_0 h
  have w1 := isF_n HF
  have w2 := isF_nd HF
  have w3 := isF_nu HF
  have w4 := isF_nc HF
  have W := isF_w HF
  have wf := isF_w HF
  have sb := asP_b W.2.2 (by omega) pn pa
  have ub := abU_b HU (c := 1) (by omega) (by omega)
  have bb := bsS_b W.2.2 HV
  refine e_iload_n dX9_assign_0 rfl ?_
  refine z_if_lt 25 dX9_assign_1 rfl ⟨by omega, by omega⟩ (fun c1 => ?_) (fun c1 => ?_)
  · exfalso; omega
  · skip
    refine e_iload_n dX9_assign_4 rfl ?_
    refine z_bipush (6) dX9_assign_5 rfl ?_
    refine z_icmp_gt 25 dX9_assign_7 rfl ⟨by omega, by omega⟩ ⟨by omega, by omega⟩ (fun c2 => ?_) (fun c2 => ?_)
    · exfalso; omega
    · skip
      refine e_iload_n dX9_assign_10 rfl ?_
      refine e_aload_n dX9_assign_11 rfl ?_
      refine e_get (.ref (y + 6)) dX9_assign_12 tf_9_32 (congrArg Prod.fst (wk_s0 hk)) (congrArg va_rf (wk_r0_6 hk)) ?_
      refine e_iload_n dX9_assign_15 rfl ?_
      refine z_ild (rI h (y + 6) 1) dX9_assign_16 (wk_s6 hk) (by decide) (by omega) (by omega) rfl ?_
      refine z_iadd dX9_assign_17 ?_
      refine e_aload_n dX9_assign_18 rfl ?_
      refine z_get (rI h y 1) dX9_assign_19 tf_9_15 (congrArg Prod.fst (wk_s0 hk)) (Or.inl rfl) rfl ?_
      refine z_icmp_gt 26 dX9_assign_22 rfl ⟨by omega, by omega⟩ ⟨by omega, by omega⟩ (fun c3 => ?_) (fun c3 => ?_)
      · skip
        refine e_iload_n dX9_assign_26 rfl ?_
        refine e_aload_n dX9_assign_27 rfl ?_
        refine z_get (nc g) dX9_assign_28 tf_9_56 (congrArg Prod.fst (fg_s0 hk1)) (Or.inl rfl) (isF_nc HF) ?_
        have y4 := isF_n HF
        refine z_icmp_ge 40 dX9_assign_31 rfl ⟨by omega, by omega⟩ ⟨by omega, by omega⟩ (fun c5 => ?_) (fun c5 => ?_)
        · skip
          skip
          refine e_aload_n dX9_assign_40 rfl ?_
          refine e_iload_n dX9_assign_41 rfl ?_
          refine z_put dX9_assign_42 tf_9_15 (congrArg Prod.fst (wk_s0 hk)) rfl (Or.inl rfl) (fun h6 e7 => ?_)
          have f8 := frm_1 e7
          have k9 := lk_q (frm_s f8) hk
          have k10 := lk_q (frm_s f8) hk1
          have H11 := isF_c f8 (fun a k q1 q2 => by omega) HF
          have H12 := mgT_c f8 (fun a k q => by omega) HT
          have H13 := abU_c f8 (fun a k q => by omega) HU
          have H14 := asS_c f8 (fun a k q => by omega) HA
          have FR15 := frm_t FR0 (frm_m (S' := (fun a k => (a = y ∧ k = 1) ∨ a = y + 1 ∨ a = y + 2 ∨ a = y + 5)) f8 (fun a k q => by omega))
          refine e_aload_n dX9_assign_45 rfl ?_
          refine e_get (.ref (y + 2)) dX9_assign_46 tf_9_19 (congrArg Prod.fst (wk_s0 k9)) (congrArg va_rf (wk_r0_2 k9)) ?_
          refine z_iconst (0) dX9_assign_49 rfl ?_
          refine e_aload_n dX9_assign_50 rfl ?_
          refine e_get (.ref (y + 1)) dX9_assign_51 tf_9_9 (congrArg Prod.fst (wk_s0 k9)) (congrArg va_rf (wk_r0_0 k9)) ?_
          refine z_iconst (0) dX9_assign_54 rfl ?_
          refine z_bipush (6) dX9_assign_55 rfl ?_
          refine z_cpy dX9_assign_57 tm_9_78 (Nat.le_of_ble_eq_true rfl) (wk_s1 k9) (wk_s2 k9) (by decide) (by decide) (by omega) (by omega) (by omega) (by omega) (by omega) (fun h16 f17 e18 => ?_)
          have k19 := lk_q (frm_s f17) k9
          have k20 := lk_q (frm_s f17) k10
          have H21 := isF_c f17 (fun a k q1 q2 => by omega) H11
          have H22 := mgT_c f17 (fun a k q => by omega) H12
          have H23 := abU_c f17 (fun a k q => by omega) H13
          have H24 := asS_c f17 (fun a k q => by omega) H14
          have FR25 := frm_t FR15 (frm_m (S' := (fun a k => (a = y ∧ k = 1) ∨ a = y + 1 ∨ a = y + 2 ∨ a = y + 5)) f17 (fun a k q => by omega))
          refine e_vret dX9_assign_60 rfl ⟨rfl, ?_⟩
          have B2 : ∀ x : Int, 0 ≤ x → x < 6 → rI h16 (y + 1) x = rI h (y + 2) x := fun x a b => ((cpy6 e18 a b)).trans ((frm_r f8 (by omega)))
          exact kq _ FR25 (asP_leaf wf (by omega) (by omega) pa HU HV HA (by omega) (show rI h16 y 1 = s from ((frm_r f17 (by omega)).trans (rI_eq e7 ⟨by omega, by omega⟩))) B2) H24
        · skip
          skip
          refine e_iload_n dX9_assign_34 rfl ?_
          refine z_bipush (6) dX9_assign_35 rfl ?_
          refine z_icmp_lt 61 dX9_assign_37 rfl ⟨by omega, by omega⟩ ⟨by omega, by omega⟩ (fun c26 => ?_) (fun c26 => ?_)
          · skip
            refine z_iconst (0) dX9_assign_61 rfl ?_
            refine e_istore (L' := [_, _, _, _, _, _]) dX9_assign_62 (Nat.le_of_ble_eq_true rfl) rfl ?_
            have lp27 : ∀ (n27 : Nat) (d u : Int) (h27 : mH), (nd g - d).toNat = n27 → (wkk h27 y) → (fgk h27 f) → (isF h27 f g) → (mgT h27 y g) → (abU h27 y g) → (asS h27 y w 1) → (frm (fun a k => (a = y ∧ k = 1) ∨ a = y + 1 ∨ a = y + 2 ∨ a = y + 5) h h27) → (0 ≤ d ∧ d ≤ nd g) → (fmax (vaW g) (suW g) (cdZ w 1 + d * scZ (1 + 1)) u) → (bsS h27 y g u) → mEv TB0 ad M_X9_assign (dd + 8) (0, 0) (mCal TB0 ad (dd + 7)) (fun v h' z => z.1 = 0 ∧ Q v h') 64 [some (.ref y), some (.ref f), some (.int (zI 1)), some (.int (zI s)), some (.int (zI d)), none] [] h27 (0, 0) := by
              intro n27
              induction n27 using Nat.strongRecOn with
              | ind n27 ih27 =>
              intro d u h27 hn27 k28 k29 H30 H31 H32 H33 FR34 I1 IF IB
              refine e_iload dX9_assign_64 rfl ?_
              have ib := bsS_b W.2.2 IB
              refine e_aload_n dX9_assign_66 rfl ?_
              refine e_get (.ref (f + 1)) dX9_assign_67 tf_9_84 (congrArg Prod.fst (fg_s0 k29)) (congrArg va_rf (fg_r0_0 k29)) ?_
              refine z_get (nd g) dX9_assign_70 tf_9_88 (congrArg Prod.fst (fg_s1 k29)) (Or.inl rfl) (isF_nd H30) ?_
              have y35 := isF_n H30
              refine z_icmp_ge 176 dX9_assign_73 rfl ⟨by omega, by omega⟩ ⟨by omega, by omega⟩ (fun c36 => ?_) (fun c36 => ?_)
              · skip
                have I6 := asP_hi (c := 1) (by omega) (by omega) (by omega) (by omega) pa (6 - d).toNat d (by omega) (by omega) IF
                refine e_aload_n dX9_assign_176 rfl ?_
                refine e_get (.ref (y + 2)) dX9_assign_177 tf_9_19 (congrArg Prod.fst (wk_s0 k28)) (congrArg va_rf (wk_r0_2 k28)) ?_
                refine e_iload_n dX9_assign_180 rfl ?_
                refine z_bipush (6) dX9_assign_181 rfl ?_
                refine z_ist dX9_assign_183 (wk_s2 k28) (by decide) (by omega) (by omega) (fun h37 e38 => ?_)
                have f39 := frm_1 e38
                have k40 := lk_q (frm_s f39) k28
                have k41 := lk_q (frm_s f39) k29
                have H42 := isF_c f39 (fun a k q1 q2 => by omega) H30
                have H43 := mgT_c f39 (fun a k q => by omega) H31
                have H44 := abU_c f39 (fun a k q => by omega) H32
                have H45 := bsS_c f39 (fun a k q => by omega) IB
                have FR46 := frm_t FR34 (frm_m (S' := (fun a k => (a = y ∧ k = 1) ∨ a = y + 1 ∨ a = y + 2 ∨ a = y + 5)) f39 (fun a k q => by omega))
                have A47 : asS h37 y (setG w 1 6) (1 + 1) := asS_6 H33 (by omega) (fun e a b => (frm_r f39 (by omega))) (by exact (rI_eq e38 ⟨by omega, by omega⟩)) (fun e a b => (frm_r f39 (by omega)))
                have pin := asP_in (c := 1) (d := 6) (by omega) pa I6 rfl (Or.inl (if_pos rfl)) s (by rw [if_neg (by omega)]; omega)
                refine e_aload_n dX9_assign_184 rfl ?_
                refine e_aload_n dX9_assign_185 rfl ?_
                refine e_iload_n dX9_assign_186 rfl ?_
                refine z_iconst (1) dX9_assign_187 rfl ?_
                refine z_iadd dX9_assign_188 ?_
                refine e_iload_n dX9_assign_189 rfl ?_
                refine e_callV [.ref _, .int _, .int _] dX9_assign_190 tm_9_52 rfl (Nat.le_of_ble_eq_true rfl) (congrArg Prod.fst (wk_s0 k40)) (Nat.le_of_ble_eq_true rfl) (Nat.le_refl _) (Nat.le_refl _) rfl (zp_X9_assign_2 k40 k41 H42 H43 H44 A47 H45 s ⟨by omega, by omega⟩ (by omega) pin (by omega) (fun  h48 f49 p50 p51 => ?_))
                have k52 := lk_q (frm_s f49) k40
                have k53 := lk_q (frm_s f49) k41
                have H54 := isF_c f49 (fun a k q1 q2 => by omega) H42
                have H55 := mgT_c f49 (fun a k q => by omega) H43
                have H56 := abU_c f49 (fun a k q => by omega) H44
                have FR57 := frm_t FR46 (frm_m (S' := (fun a k => (a = y ∧ k = 1) ∨ a = y + 1 ∨ a = y + 2 ∨ a = y + 5)) f49 (fun a k q => by omega))
                skip
                refine e_vret dX9_assign_193 rfl ⟨rfl, ?_⟩
                have ZZ : cdZ (setG w 1 6) (1 + 1) + scZ (1 + 1) = cdZ w 1 + scZ 1 := by rw [cd_set (by omega), (sc_s (n := 1) (by omega) (by omega)).1]; omega
                exact kq _ FR57 (by rw [← ZZ]; exact p50) (asS_q p51 (by omega))
              · skip
                refine e_iload dX9_assign_76 rfl ?_
                refine z_bipush (6) dX9_assign_78 rfl ?_
                refine z_icmp_ge 176 dX9_assign_80 rfl ⟨by omega, by omega⟩ ⟨by omega, by omega⟩ (fun c58 => ?_) (fun c58 => ?_)
                · skip
                  have I6 := asP_hi (c := 1) (by omega) (by omega) (by omega) (by omega) pa (6 - d).toNat d (by omega) (by omega) IF
                  refine e_aload_n dX9_assign_176 rfl ?_
                  refine e_get (.ref (y + 2)) dX9_assign_177 tf_9_19 (congrArg Prod.fst (wk_s0 k28)) (congrArg va_rf (wk_r0_2 k28)) ?_
                  refine e_iload_n dX9_assign_180 rfl ?_
                  refine z_bipush (6) dX9_assign_181 rfl ?_
                  refine z_ist dX9_assign_183 (wk_s2 k28) (by decide) (by omega) (by omega) (fun h59 e60 => ?_)
                  have f61 := frm_1 e60
                  have k62 := lk_q (frm_s f61) k28
                  have k63 := lk_q (frm_s f61) k29
                  have H64 := isF_c f61 (fun a k q1 q2 => by omega) H30
                  have H65 := mgT_c f61 (fun a k q => by omega) H31
                  have H66 := abU_c f61 (fun a k q => by omega) H32
                  have H67 := bsS_c f61 (fun a k q => by omega) IB
                  have FR68 := frm_t FR34 (frm_m (S' := (fun a k => (a = y ∧ k = 1) ∨ a = y + 1 ∨ a = y + 2 ∨ a = y + 5)) f61 (fun a k q => by omega))
                  have A69 : asS h59 y (setG w 1 6) (1 + 1) := asS_6 H33 (by omega) (fun e a b => (frm_r f61 (by omega))) (by exact (rI_eq e60 ⟨by omega, by omega⟩)) (fun e a b => (frm_r f61 (by omega)))
                  have pin := asP_in (c := 1) (d := 6) (by omega) pa I6 rfl (Or.inl (if_pos rfl)) s (by rw [if_neg (by omega)]; omega)
                  refine e_aload_n dX9_assign_184 rfl ?_
                  refine e_aload_n dX9_assign_185 rfl ?_
                  refine e_iload_n dX9_assign_186 rfl ?_
                  refine z_iconst (1) dX9_assign_187 rfl ?_
                  refine z_iadd dX9_assign_188 ?_
                  refine e_iload_n dX9_assign_189 rfl ?_
                  refine e_callV [.ref _, .int _, .int _] dX9_assign_190 tm_9_52 rfl (Nat.le_of_ble_eq_true rfl) (congrArg Prod.fst (wk_s0 k62)) (Nat.le_of_ble_eq_true rfl) (Nat.le_refl _) (Nat.le_refl _) rfl (zp_X9_assign_2 k62 k63 H64 H65 H66 A69 H67 s ⟨by omega, by omega⟩ (by omega) pin (by omega) (fun  h70 f71 p72 p73 => ?_))
                  have k74 := lk_q (frm_s f71) k62
                  have k75 := lk_q (frm_s f71) k63
                  have H76 := isF_c f71 (fun a k q1 q2 => by omega) H64
                  have H77 := mgT_c f71 (fun a k q => by omega) H65
                  have H78 := abU_c f71 (fun a k q => by omega) H66
                  have FR79 := frm_t FR68 (frm_m (S' := (fun a k => (a = y ∧ k = 1) ∨ a = y + 1 ∨ a = y + 2 ∨ a = y + 5)) f71 (fun a k q => by omega))
                  skip
                  refine e_vret dX9_assign_193 rfl ⟨rfl, ?_⟩
                  have ZZ : cdZ (setG w 1 6) (1 + 1) + scZ (1 + 1) = cdZ w 1 + scZ 1 := by rw [cd_set (by omega), (sc_s (n := 1) (by omega) (by omega)).1]; omega
                  exact kq _ FR79 (by rw [← ZZ]; exact p72) (asS_q p73 (by omega))
                · skip
                  refine e_aload_n dX9_assign_83 rfl ?_
                  refine e_get (.ref (y + 5)) dX9_assign_84 tf_9_29 (congrArg Prod.fst (wk_s0 k28)) (congrArg va_rf (wk_r0_5 k28)) ?_
                  refine e_iload dX9_assign_87 rfl ?_
                  refine z_ild (rI h27 (y + 5) d) dX9_assign_89 (wk_s5 k28) (by decide) (by omega) (by omega) rfl ?_
                  have y80 := ((H33).1 d (by omega) (by omega)).1
                  refine z_iconst (1) dX9_assign_90 rfl ?_
                  refine e_iload_n dX9_assign_91 rfl ?_
                  refine z_ishl dX9_assign_92 (by omega) (by omega) (by omega) (by omega) ?_
                  have y81 := shlZ_b 1 1
                  refine z_ior dX9_assign_93 (by omega) (by omega) (by omega) (by omega) ?_
                  have y82 := orZ_b (rI h27 (y + 5) d) (shlZ 1 1)
                  refine e_istore (L' := [_, _, _, _, _, _]) dX9_assign_94 (Nat.le_of_ble_eq_true rfl) rfl ?_
                  have hS := asS_h H33 (c := 1) (d := d) (by omega) (by omega)
                  have ob := or_b (k := 1) ((H33).1 d (by omega) (by omega)).1.2 (by omega)
                  have ob : 0 ≤ (orZ (rI h27 (y + 5) d) (shlZ 1 1)) ∧ (orZ (rI h27 (y + 5) d) (shlZ 1 1)) < 64 := ob
                  refine e_aload_n dX9_assign_96 rfl ?_
                  refine e_iload dX9_assign_97 rfl ?_
                  refine e_callV [.int _] dX9_assign_99 tm_9_93 rfl (Nat.le_of_ble_eq_true rfl) (congrArg Prod.fst (fg_s0 k29)) (Nat.le_of_ble_eq_true rfl) (Nat.le_refl _) (Nat.le_refl _) rfl (zp_X2_upOf k29 H30 d ⟨by omega, by omega⟩ ?_)
                  have y83 := upv_s (isF_w H30) d
                  refine z_iconst (-1) dX9_assign_102 rfl ?_
                  refine z_icmp_eq 170 dX9_assign_103 rfl ⟨by omega, by omega⟩ ⟨by omega, by omega⟩ (fun c84 => ?_) (fun c84 => ?_)
                  · skip
                    have nok : ¬ okD g (setG w 1 d) 1 := as_no (by omega) (by omega) (by omega) (by omega) hS (Or.inl (by omega))
                    refine z_iinc (L' := [_, _, _, _, _, _]) dX9_assign_170 rfl rfl ?_
                    refine e_goto 64 dX9_assign_173 rfl ?_
                    exact mEv_wk (by exact ⟨Or.inr rfl, Or.inr rfl, Or.inr rfl, Or.inr rfl, Or.inr rfl, Or.inl rfl, trivial⟩) (ih27 _ (by omega) (d + 1) u h27 rfl k28 k29 H30 H31 H32 H33 FR34 (by omega) (asP_sk (c := 1) (d := d) (by omega) (by omega) (by omega) (by omega) (by omega) pa IF rfl (by rw [Int.add_mul, Int.one_mul]; omega) nok) IB)
                  · skip
                    refine e_aload_n dX9_assign_106 rfl ?_
                    refine e_get (.ref (y + 4)) dX9_assign_107 tf_9_25 (congrArg Prod.fst (wk_s0 k28)) (congrArg va_rf (wk_r0_4 k28)) ?_
                    refine e_iload dX9_assign_110 rfl ?_
                    refine z_bipush (64) dX9_assign_112 rfl ?_
                    refine z_imul dX9_assign_114 ?_
                    refine e_iload dX9_assign_115 rfl ?_
                    refine z_iadd dX9_assign_117 ?_
                    refine z_zld (rI h27 (y + 4) ((d * 64) + (orZ (rI h27 (y + 5) d) (shlZ 1 1)))) dX9_assign_118 (wk_s4 k28) (by decide) (by omega) (by omega) rfl ?_
                    have y85 := mgT_b H31 (d := d) (s := (orZ (rI h27 (y + 5) d) (shlZ 1 1))) (by omega) (by omega) (by omega) (by omega)
                    refine z_if_eq 170 dX9_assign_119 rfl ⟨by omega, by omega⟩ (fun c86 => ?_) (fun c86 => ?_)
                    · skip
                      have nok : ¬ okD g (setG w 1 d) 1 := as_no (by omega) (by omega) (by omega) (by omega) hS (Or.inr (mgT_0 H31 (by omega) (by omega) (by omega) (by omega) (by assumption)))
                      refine z_iinc (L' := [_, _, _, _, _, _]) dX9_assign_170 rfl rfl ?_
                      refine e_goto 64 dX9_assign_173 rfl ?_
                      exact mEv_wk (by exact ⟨Or.inr rfl, Or.inr rfl, Or.inr rfl, Or.inr rfl, Or.inr rfl, Or.inl rfl, trivial⟩) (ih27 _ (by omega) (d + 1) u h27 rfl k28 k29 H30 H31 H32 H33 FR34 (by omega) (asP_sk (c := 1) (d := d) (by omega) (by omega) (by omega) (by omega) (by omega) pa IF rfl (by rw [Int.add_mul, Int.one_mul]; omega) nok) IB)
                    · skip
                      have mgy : mgP g d (orZ (rI h27 (y + 5) d) (shlZ 1 1)) := mgT_1 H31 (by omega) (by omega) (by omega) (by omega) (by assumption)
                      refine e_aload_n dX9_assign_122 rfl ?_
                      refine e_get (.ref (y + 5)) dX9_assign_123 tf_9_29 (congrArg Prod.fst (wk_s0 k28)) (congrArg va_rf (wk_r0_5 k28)) ?_
                      refine e_iload dX9_assign_126 rfl ?_
                      refine e_iload dX9_assign_128 rfl ?_
                      refine z_ist dX9_assign_130 (wk_s5 k28) (by decide) (by omega) (by omega) (fun h87 e88 => ?_)
                      have f89 := frm_1 e88
                      have k90 := lk_q (frm_s f89) k28
                      have k91 := lk_q (frm_s f89) k29
                      have H92 := isF_c f89 (fun a k q1 q2 => by omega) H30
                      have H93 := mgT_c f89 (fun a k q => by omega) H31
                      have H94 := abU_c f89 (fun a k q => by omega) H32
                      have H95 := bsS_c f89 (fun a k q => by omega) IB
                      have FR96 := frm_t FR34 (frm_m (S' := (fun a k => (a = y ∧ k = 1) ∨ a = y + 1 ∨ a = y + 2 ∨ a = y + 5)) f89 (fun a k q => by omega))
                      refine e_aload_n dX9_assign_131 rfl ?_
                      refine e_get (.ref (y + 2)) dX9_assign_132 tf_9_19 (congrArg Prod.fst (wk_s0 k90)) (congrArg va_rf (wk_r0_2 k90)) ?_
                      refine e_iload_n dX9_assign_135 rfl ?_
                      refine e_iload dX9_assign_136 rfl ?_
                      refine z_ist dX9_assign_138 (wk_s2 k90) (by decide) (by omega) (by omega) (fun h97 e98 => ?_)
                      have f99 := frm_1 e98
                      have k100 := lk_q (frm_s f99) k90
                      have k101 := lk_q (frm_s f99) k91
                      have H102 := isF_c f99 (fun a k q1 q2 => by omega) H92
                      have H103 := mgT_c f99 (fun a k q => by omega) H93
                      have H104 := abU_c f99 (fun a k q => by omega) H94
                      have H105 := bsS_c f99 (fun a k q => by omega) H95
                      have FR106 := frm_t FR96 (frm_m (S' := (fun a k => (a = y ∧ k = 1) ∨ a = y + 1 ∨ a = y + 2 ∨ a = y + 5)) f99 (fun a k q => by omega))
                      have A107 : asS h97 y (setG w 1 d) (1 + 1) := asS_y H33 (by omega) (by omega) (by omega) rfl (by exact ((frm_r f99 (by omega)).trans (rI_eq e88 ⟨by omega, by omega⟩))) (fun e a b n => ((frm_r f99 (by omega)).trans (frm_r f89 (by omega)))) (by exact (rI_eq e98 ⟨by omega, by omega⟩)) (fun e a b => ((frm_r f99 (by omega)).trans (frm_r f89 (by omega))))
                      have oky : okD g (setG w 1 d) 1 := as_ok (by omega) (by omega) (by omega) (by omega) (by omega) hS mgy
                      have pin := asP_in (c := 1) (d := d) (by omega) pa IF rfl oky (s + pr g 1) (by rw [if_pos (by omega)])
                      refine e_aload_n dX9_assign_139 rfl ?_
                      refine e_aload_n dX9_assign_140 rfl ?_
                      refine e_iload_n dX9_assign_141 rfl ?_
                      refine z_iconst (1) dX9_assign_142 rfl ?_
                      refine z_iadd dX9_assign_143 ?_
                      refine e_iload_n dX9_assign_144 rfl ?_
                      refine e_aload_n dX9_assign_145 rfl ?_
                      refine e_get (.ref (f + 14)) dX9_assign_146 tf_9_75 (congrArg Prod.fst (fg_s0 k101)) (congrArg va_rf (fg_r0_3 k101)) ?_
                      refine e_iload_n dX9_assign_149 rfl ?_
                      refine z_ild (pr g 1) dX9_assign_150 (fg_s14 k101) (by decide) (by omega) (by omega) (isF_pr H102 (by omega) (by omega)) ?_
                      have y108 := wC_c (isF_w H102).2.2 (show 0 ≤ 1 by omega) (by omega)
                      refine z_iadd dX9_assign_151 ?_
                      refine e_callV [.ref _, .int _, .int _] dX9_assign_152 tm_9_52 rfl (Nat.le_of_ble_eq_true rfl) (congrArg Prod.fst (wk_s0 k100)) (Nat.le_of_ble_eq_true rfl) (Nat.le_refl _) (Nat.le_refl _) rfl (zp_X9_assign_2 k100 k101 H102 H103 H104 A107 H105 (s + (pr g 1)) ⟨by omega, by omega⟩ (by omega) pin (by omega) (fun  h109 f110 p111 p112 => ?_))
                      have k113 := lk_q (frm_s f110) k100
                      have k114 := lk_q (frm_s f110) k101
                      have H115 := isF_c f110 (fun a k q1 q2 => by omega) H102
                      have H116 := mgT_c f110 (fun a k q => by omega) H103
                      have H117 := abU_c f110 (fun a k q => by omega) H104
                      have FR118 := frm_t FR106 (frm_m (S' := (fun a k => (a = y ∧ k = 1) ∨ a = y + 1 ∨ a = y + 2 ∨ a = y + 5)) f110 (fun a k q => by omega))
                      obtain ⟨u2, F2, B2⟩ := p111
                      refine e_aload_n dX9_assign_155 rfl ?_
                      refine e_get (.ref (y + 5)) dX9_assign_156 tf_9_29 (congrArg Prod.fst (wk_s0 k113)) (congrArg va_rf (wk_r0_5 k113)) ?_
                      refine e_iload dX9_assign_159 rfl ?_
                      refine e_iload dX9_assign_161 rfl ?_
                      refine z_iconst (1) dX9_assign_163 rfl ?_
                      refine e_iload_n dX9_assign_164 rfl ?_
                      refine z_ishl dX9_assign_165 (by omega) (by omega) (by omega) (by omega) ?_
                      have y119 := shlZ_b 1 1
                      refine z_iconst (-1) dX9_assign_166 rfl ?_
                      refine z_inot dX9_assign_167 (by omega) ?_
                      refine z_iandn dX9_assign_168 (by omega) (by omega) ?_
                      have y120 := subS_b (orZ (rI h27 (y + 5) d) (shlZ 1 1)) (shlZ 1 1)
                      refine z_ist dX9_assign_169 (wk_s5 k113) (by decide) (by omega) (by omega) (fun h121 e122 => ?_)
                      have f123 := frm_1 e122
                      have k124 := lk_q (frm_s f123) k113
                      have k125 := lk_q (frm_s f123) k114
                      have H126 := isF_c f123 (fun a k q1 q2 => by omega) H115
                      have H127 := mgT_c f123 (fun a k q => by omega) H116
                      have H128 := abU_c f123 (fun a k q => by omega) H117
                      have FR129 := frm_t FR118 (frm_m (S' := (fun a k => (a = y ∧ k = 1) ∨ a = y + 1 ∨ a = y + 2 ∨ a = y + 5)) f123 (fun a k q => by omega))
                      have A130 : asS h121 y w 1 := asS_z p112 (by omega) (by omega) (by omega) hS ob (by exact (rI_eq e122 ⟨by omega, by omega⟩)) (fun e a b n => (frm_r f123 (by omega))) (fun e a b => (frm_r f123 (by omega)))
                      have B131 := bsS_c f123 (fun a k q => by omega) B2
                      refine z_iinc (L' := [_, _, _, _, _, _]) dX9_assign_170 rfl rfl ?_
                      refine e_goto 64 dX9_assign_173 rfl ?_
                      exact mEv_wk (by exact ⟨Or.inr rfl, Or.inr rfl, Or.inr rfl, Or.inr rfl, Or.inr rfl, Or.inl rfl, trivial⟩) (ih27 _ (by omega) (d + 1) u2 h121 rfl k124 k125 H126 H127 H128 A130 FR129 (by omega) (by have zz : cdZ (setG w 1 d) (1 + 1) + scZ (1 + 1) = cdZ w 1 + (d + 1) * scZ (1 + 1) := (by rw [cd_set (by omega), Int.add_mul, Int.one_mul]; omega); rw [← zz]; exact F2) B131)
            exact lp27 _ 0 v h rfl hk hk1 HF HT HU HA FR0 (by omega) (by rw [Int.zero_mul, Int.add_zero]; exact pa.2.2) HV
          · exfalso; omega
      · skip
        skip
        refine e_vret dX9_assign_25 rfl ⟨rfl, ?_⟩
        exact kq _ FR0 (asP_prune wf (by omega) pn pa HU HV (by omega)) HA
set_option maxHeartbeats 4000000 in
theorem zp_X9_assign_0 {ad : mA} {dd : Nat} {h : mH} {Q : mQ} {y f : Nat} {g w : Int → Int} {v : Int} (hk : wkk h y) (hk1 : fgk h f) (HF : isF h f g) (HT : mgT h y g) (HU : abU h y g) (HA : asS h y w 0) (HV : bsS h y g v)  (s : Int) (s_r : -2147483648 ≤ s ∧ s < 2147483648) (pn : (0 : Int) ≤ nc g) (pa : asP g w 0 s v) (pf : y + 7 ≤ f ∨ f + 16 ≤ y) (kq : ∀ h1, frm (fun a k => (a = y ∧ k = 1) ∨ a = y + 1 ∨ a = y + 2 ∨ a = y + 5) h h1 → (asE h1 y g (cdZ w 0 + scZ 0)) → (asS h1 y w 0) → Q none h1) : mCal TB0 ad (dd + 9) M_X9_assign [.ref y, .ref f, .int (zI 0), .int (zI s)] h 0 0 Q := by
  refine ⟨Nat.le_of_ble_eq_true rfl, ?_⟩
  show mEv TB0 ad M_X9_assign (dd + 9) (0, 0) (mCal TB0 ad (dd + 8)) (fun v h' z => z.1 = 0 ∧ Q v h') 0 [some (.ref y), some (.ref f), some (.int (zI 0)), some (.int (zI s)), none, none] [] h (0, 0)
  have FR0 : frm (fun a k => (a = y ∧ k = 1) ∨ a = y + 1 ∨ a = y + 2 ∨ a = y + 5) h h := frm_0 h
  have w1 := isF_n HF
  have w2 := isF_nd HF
  have w3 := isF_nu HF
  have w4 := isF_nc HF
  have W := isF_w HF
  have wf := isF_w HF
  have sb := asP_b W.2.2 (by omega) pn pa
  have ub := abU_b HU (c := 0) (by omega) (by omega)
  have bb := bsS_b W.2.2 HV
  refine e_iload_n dX9_assign_0 rfl ?_
  refine z_if_lt 25 dX9_assign_1 rfl ⟨by omega, by omega⟩ (fun c1 => ?_) (fun c1 => ?_)
  · exfalso; omega
  · skip
    refine e_iload_n dX9_assign_4 rfl ?_
    refine z_bipush (6) dX9_assign_5 rfl ?_
    refine z_icmp_gt 25 dX9_assign_7 rfl ⟨by omega, by omega⟩ ⟨by omega, by omega⟩ (fun c2 => ?_) (fun c2 => ?_)
    · exfalso; omega
    · skip
      refine e_iload_n dX9_assign_10 rfl ?_
      refine e_aload_n dX9_assign_11 rfl ?_
      refine e_get (.ref (y + 6)) dX9_assign_12 tf_9_32 (congrArg Prod.fst (wk_s0 hk)) (congrArg va_rf (wk_r0_6 hk)) ?_
      refine e_iload_n dX9_assign_15 rfl ?_
      refine z_ild (rI h (y + 6) 0) dX9_assign_16 (wk_s6 hk) (by decide) (by omega) (by omega) rfl ?_
      refine z_iadd dX9_assign_17 ?_
      refine e_aload_n dX9_assign_18 rfl ?_
      refine z_get (rI h y 1) dX9_assign_19 tf_9_15 (congrArg Prod.fst (wk_s0 hk)) (Or.inl rfl) rfl ?_
      refine z_icmp_gt 26 dX9_assign_22 rfl ⟨by omega, by omega⟩ ⟨by omega, by omega⟩ (fun c3 => ?_) (fun c3 => ?_)
      · skip
        refine e_iload_n dX9_assign_26 rfl ?_
        refine e_aload_n dX9_assign_27 rfl ?_
        refine z_get (nc g) dX9_assign_28 tf_9_56 (congrArg Prod.fst (fg_s0 hk1)) (Or.inl rfl) (isF_nc HF) ?_
        have y4 := isF_n HF
        refine z_icmp_ge 40 dX9_assign_31 rfl ⟨by omega, by omega⟩ ⟨by omega, by omega⟩ (fun c5 => ?_) (fun c5 => ?_)
        · skip
          skip
          refine e_aload_n dX9_assign_40 rfl ?_
          refine e_iload_n dX9_assign_41 rfl ?_
          refine z_put dX9_assign_42 tf_9_15 (congrArg Prod.fst (wk_s0 hk)) rfl (Or.inl rfl) (fun h6 e7 => ?_)
          have f8 := frm_1 e7
          have k9 := lk_q (frm_s f8) hk
          have k10 := lk_q (frm_s f8) hk1
          have H11 := isF_c f8 (fun a k q1 q2 => by omega) HF
          have H12 := mgT_c f8 (fun a k q => by omega) HT
          have H13 := abU_c f8 (fun a k q => by omega) HU
          have H14 := asS_c f8 (fun a k q => by omega) HA
          have FR15 := frm_t FR0 (frm_m (S' := (fun a k => (a = y ∧ k = 1) ∨ a = y + 1 ∨ a = y + 2 ∨ a = y + 5)) f8 (fun a k q => by omega))
          refine e_aload_n dX9_assign_45 rfl ?_
          refine e_get (.ref (y + 2)) dX9_assign_46 tf_9_19 (congrArg Prod.fst (wk_s0 k9)) (congrArg va_rf (wk_r0_2 k9)) ?_
          refine z_iconst (0) dX9_assign_49 rfl ?_
          refine e_aload_n dX9_assign_50 rfl ?_
          refine e_get (.ref (y + 1)) dX9_assign_51 tf_9_9 (congrArg Prod.fst (wk_s0 k9)) (congrArg va_rf (wk_r0_0 k9)) ?_
          refine z_iconst (0) dX9_assign_54 rfl ?_
          refine z_bipush (6) dX9_assign_55 rfl ?_
          refine z_cpy dX9_assign_57 tm_9_78 (Nat.le_of_ble_eq_true rfl) (wk_s1 k9) (wk_s2 k9) (by decide) (by decide) (by omega) (by omega) (by omega) (by omega) (by omega) (fun h16 f17 e18 => ?_)
          have k19 := lk_q (frm_s f17) k9
          have k20 := lk_q (frm_s f17) k10
          have H21 := isF_c f17 (fun a k q1 q2 => by omega) H11
          have H22 := mgT_c f17 (fun a k q => by omega) H12
          have H23 := abU_c f17 (fun a k q => by omega) H13
          have H24 := asS_c f17 (fun a k q => by omega) H14
          have FR25 := frm_t FR15 (frm_m (S' := (fun a k => (a = y ∧ k = 1) ∨ a = y + 1 ∨ a = y + 2 ∨ a = y + 5)) f17 (fun a k q => by omega))
          refine e_vret dX9_assign_60 rfl ⟨rfl, ?_⟩
          have B2 : ∀ x : Int, 0 ≤ x → x < 6 → rI h16 (y + 1) x = rI h (y + 2) x := fun x a b => ((cpy6 e18 a b)).trans ((frm_r f8 (by omega)))
          exact kq _ FR25 (asP_leaf wf (by omega) (by omega) pa HU HV HA (by omega) (show rI h16 y 1 = s from ((frm_r f17 (by omega)).trans (rI_eq e7 ⟨by omega, by omega⟩))) B2) H24
        · skip
          skip
          refine e_iload_n dX9_assign_34 rfl ?_
          refine z_bipush (6) dX9_assign_35 rfl ?_
          refine z_icmp_lt 61 dX9_assign_37 rfl ⟨by omega, by omega⟩ ⟨by omega, by omega⟩ (fun c26 => ?_) (fun c26 => ?_)
          · skip
            refine z_iconst (0) dX9_assign_61 rfl ?_
            refine e_istore (L' := [_, _, _, _, _, _]) dX9_assign_62 (Nat.le_of_ble_eq_true rfl) rfl ?_
            have lp27 : ∀ (n27 : Nat) (d u : Int) (h27 : mH), (nd g - d).toNat = n27 → (wkk h27 y) → (fgk h27 f) → (isF h27 f g) → (mgT h27 y g) → (abU h27 y g) → (asS h27 y w 0) → (frm (fun a k => (a = y ∧ k = 1) ∨ a = y + 1 ∨ a = y + 2 ∨ a = y + 5) h h27) → (0 ≤ d ∧ d ≤ nd g) → (fmax (vaW g) (suW g) (cdZ w 0 + d * scZ (0 + 1)) u) → (bsS h27 y g u) → mEv TB0 ad M_X9_assign (dd + 9) (0, 0) (mCal TB0 ad (dd + 8)) (fun v h' z => z.1 = 0 ∧ Q v h') 64 [some (.ref y), some (.ref f), some (.int (zI 0)), some (.int (zI s)), some (.int (zI d)), none] [] h27 (0, 0) := by
              intro n27
              induction n27 using Nat.strongRecOn with
              | ind n27 ih27 =>
              intro d u h27 hn27 k28 k29 H30 H31 H32 H33 FR34 I1 IF IB
              refine e_iload dX9_assign_64 rfl ?_
              have ib := bsS_b W.2.2 IB
              refine e_aload_n dX9_assign_66 rfl ?_
              refine e_get (.ref (f + 1)) dX9_assign_67 tf_9_84 (congrArg Prod.fst (fg_s0 k29)) (congrArg va_rf (fg_r0_0 k29)) ?_
              refine z_get (nd g) dX9_assign_70 tf_9_88 (congrArg Prod.fst (fg_s1 k29)) (Or.inl rfl) (isF_nd H30) ?_
              have y35 := isF_n H30
              refine z_icmp_ge 176 dX9_assign_73 rfl ⟨by omega, by omega⟩ ⟨by omega, by omega⟩ (fun c36 => ?_) (fun c36 => ?_)
              · skip
                have I6 := asP_hi (c := 0) (by omega) (by omega) (by omega) (by omega) pa (6 - d).toNat d (by omega) (by omega) IF
                refine e_aload_n dX9_assign_176 rfl ?_
                refine e_get (.ref (y + 2)) dX9_assign_177 tf_9_19 (congrArg Prod.fst (wk_s0 k28)) (congrArg va_rf (wk_r0_2 k28)) ?_
                refine e_iload_n dX9_assign_180 rfl ?_
                refine z_bipush (6) dX9_assign_181 rfl ?_
                refine z_ist dX9_assign_183 (wk_s2 k28) (by decide) (by omega) (by omega) (fun h37 e38 => ?_)
                have f39 := frm_1 e38
                have k40 := lk_q (frm_s f39) k28
                have k41 := lk_q (frm_s f39) k29
                have H42 := isF_c f39 (fun a k q1 q2 => by omega) H30
                have H43 := mgT_c f39 (fun a k q => by omega) H31
                have H44 := abU_c f39 (fun a k q => by omega) H32
                have H45 := bsS_c f39 (fun a k q => by omega) IB
                have FR46 := frm_t FR34 (frm_m (S' := (fun a k => (a = y ∧ k = 1) ∨ a = y + 1 ∨ a = y + 2 ∨ a = y + 5)) f39 (fun a k q => by omega))
                have A47 : asS h37 y (setG w 0 6) (0 + 1) := asS_6 H33 (by omega) (fun e a b => (frm_r f39 (by omega))) (by exact (rI_eq e38 ⟨by omega, by omega⟩)) (fun e a b => (frm_r f39 (by omega)))
                have pin := asP_in (c := 0) (d := 6) (by omega) pa I6 rfl (Or.inl (if_pos rfl)) s (by rw [if_neg (by omega)]; omega)
                refine e_aload_n dX9_assign_184 rfl ?_
                refine e_aload_n dX9_assign_185 rfl ?_
                refine e_iload_n dX9_assign_186 rfl ?_
                refine z_iconst (1) dX9_assign_187 rfl ?_
                refine z_iadd dX9_assign_188 ?_
                refine e_iload_n dX9_assign_189 rfl ?_
                refine e_callV [.ref _, .int _, .int _] dX9_assign_190 tm_9_52 rfl (Nat.le_of_ble_eq_true rfl) (congrArg Prod.fst (wk_s0 k40)) (Nat.le_of_ble_eq_true rfl) (Nat.le_refl _) (Nat.le_refl _) rfl (zp_X9_assign_1 k40 k41 H42 H43 H44 A47 H45 s ⟨by omega, by omega⟩ (by omega) pin (by omega) (fun  h48 f49 p50 p51 => ?_))
                have k52 := lk_q (frm_s f49) k40
                have k53 := lk_q (frm_s f49) k41
                have H54 := isF_c f49 (fun a k q1 q2 => by omega) H42
                have H55 := mgT_c f49 (fun a k q => by omega) H43
                have H56 := abU_c f49 (fun a k q => by omega) H44
                have FR57 := frm_t FR46 (frm_m (S' := (fun a k => (a = y ∧ k = 1) ∨ a = y + 1 ∨ a = y + 2 ∨ a = y + 5)) f49 (fun a k q => by omega))
                skip
                refine e_vret dX9_assign_193 rfl ⟨rfl, ?_⟩
                have ZZ : cdZ (setG w 0 6) (0 + 1) + scZ (0 + 1) = cdZ w 0 + scZ 0 := by rw [cd_set (by omega), (sc_s (n := 0) (by omega) (by omega)).1]; omega
                exact kq _ FR57 (by rw [← ZZ]; exact p50) (asS_q p51 (by omega))
              · skip
                refine e_iload dX9_assign_76 rfl ?_
                refine z_bipush (6) dX9_assign_78 rfl ?_
                refine z_icmp_ge 176 dX9_assign_80 rfl ⟨by omega, by omega⟩ ⟨by omega, by omega⟩ (fun c58 => ?_) (fun c58 => ?_)
                · skip
                  have I6 := asP_hi (c := 0) (by omega) (by omega) (by omega) (by omega) pa (6 - d).toNat d (by omega) (by omega) IF
                  refine e_aload_n dX9_assign_176 rfl ?_
                  refine e_get (.ref (y + 2)) dX9_assign_177 tf_9_19 (congrArg Prod.fst (wk_s0 k28)) (congrArg va_rf (wk_r0_2 k28)) ?_
                  refine e_iload_n dX9_assign_180 rfl ?_
                  refine z_bipush (6) dX9_assign_181 rfl ?_
                  refine z_ist dX9_assign_183 (wk_s2 k28) (by decide) (by omega) (by omega) (fun h59 e60 => ?_)
                  have f61 := frm_1 e60
                  have k62 := lk_q (frm_s f61) k28
                  have k63 := lk_q (frm_s f61) k29
                  have H64 := isF_c f61 (fun a k q1 q2 => by omega) H30
                  have H65 := mgT_c f61 (fun a k q => by omega) H31
                  have H66 := abU_c f61 (fun a k q => by omega) H32
                  have H67 := bsS_c f61 (fun a k q => by omega) IB
                  have FR68 := frm_t FR34 (frm_m (S' := (fun a k => (a = y ∧ k = 1) ∨ a = y + 1 ∨ a = y + 2 ∨ a = y + 5)) f61 (fun a k q => by omega))
                  have A69 : asS h59 y (setG w 0 6) (0 + 1) := asS_6 H33 (by omega) (fun e a b => (frm_r f61 (by omega))) (by exact (rI_eq e60 ⟨by omega, by omega⟩)) (fun e a b => (frm_r f61 (by omega)))
                  have pin := asP_in (c := 0) (d := 6) (by omega) pa I6 rfl (Or.inl (if_pos rfl)) s (by rw [if_neg (by omega)]; omega)
                  refine e_aload_n dX9_assign_184 rfl ?_
                  refine e_aload_n dX9_assign_185 rfl ?_
                  refine e_iload_n dX9_assign_186 rfl ?_
                  refine z_iconst (1) dX9_assign_187 rfl ?_
                  refine z_iadd dX9_assign_188 ?_
                  refine e_iload_n dX9_assign_189 rfl ?_
                  refine e_callV [.ref _, .int _, .int _] dX9_assign_190 tm_9_52 rfl (Nat.le_of_ble_eq_true rfl) (congrArg Prod.fst (wk_s0 k62)) (Nat.le_of_ble_eq_true rfl) (Nat.le_refl _) (Nat.le_refl _) rfl (zp_X9_assign_1 k62 k63 H64 H65 H66 A69 H67 s ⟨by omega, by omega⟩ (by omega) pin (by omega) (fun  h70 f71 p72 p73 => ?_))
                  have k74 := lk_q (frm_s f71) k62
                  have k75 := lk_q (frm_s f71) k63
                  have H76 := isF_c f71 (fun a k q1 q2 => by omega) H64
                  have H77 := mgT_c f71 (fun a k q => by omega) H65
                  have H78 := abU_c f71 (fun a k q => by omega) H66
                  have FR79 := frm_t FR68 (frm_m (S' := (fun a k => (a = y ∧ k = 1) ∨ a = y + 1 ∨ a = y + 2 ∨ a = y + 5)) f71 (fun a k q => by omega))
                  skip
                  refine e_vret dX9_assign_193 rfl ⟨rfl, ?_⟩
                  have ZZ : cdZ (setG w 0 6) (0 + 1) + scZ (0 + 1) = cdZ w 0 + scZ 0 := by rw [cd_set (by omega), (sc_s (n := 0) (by omega) (by omega)).1]; omega
                  exact kq _ FR79 (by rw [← ZZ]; exact p72) (asS_q p73 (by omega))
                · skip
                  refine e_aload_n dX9_assign_83 rfl ?_
                  refine e_get (.ref (y + 5)) dX9_assign_84 tf_9_29 (congrArg Prod.fst (wk_s0 k28)) (congrArg va_rf (wk_r0_5 k28)) ?_
                  refine e_iload dX9_assign_87 rfl ?_
                  refine z_ild (rI h27 (y + 5) d) dX9_assign_89 (wk_s5 k28) (by decide) (by omega) (by omega) rfl ?_
                  have y80 := ((H33).1 d (by omega) (by omega)).1
                  refine z_iconst (1) dX9_assign_90 rfl ?_
                  refine e_iload_n dX9_assign_91 rfl ?_
                  refine z_ishl dX9_assign_92 (by omega) (by omega) (by omega) (by omega) ?_
                  have y81 := shlZ_b 1 0
                  refine z_ior dX9_assign_93 (by omega) (by omega) (by omega) (by omega) ?_
                  have y82 := orZ_b (rI h27 (y + 5) d) (shlZ 1 0)
                  refine e_istore (L' := [_, _, _, _, _, _]) dX9_assign_94 (Nat.le_of_ble_eq_true rfl) rfl ?_
                  have hS := asS_h H33 (c := 0) (d := d) (by omega) (by omega)
                  have ob := or_b (k := 0) ((H33).1 d (by omega) (by omega)).1.2 (by omega)
                  have ob : 0 ≤ (orZ (rI h27 (y + 5) d) (shlZ 1 0)) ∧ (orZ (rI h27 (y + 5) d) (shlZ 1 0)) < 64 := ob
                  refine e_aload_n dX9_assign_96 rfl ?_
                  refine e_iload dX9_assign_97 rfl ?_
                  refine e_callV [.int _] dX9_assign_99 tm_9_93 rfl (Nat.le_of_ble_eq_true rfl) (congrArg Prod.fst (fg_s0 k29)) (Nat.le_of_ble_eq_true rfl) (Nat.le_refl _) (Nat.le_refl _) rfl (zp_X2_upOf k29 H30 d ⟨by omega, by omega⟩ ?_)
                  have y83 := upv_s (isF_w H30) d
                  refine z_iconst (-1) dX9_assign_102 rfl ?_
                  refine z_icmp_eq 170 dX9_assign_103 rfl ⟨by omega, by omega⟩ ⟨by omega, by omega⟩ (fun c84 => ?_) (fun c84 => ?_)
                  · skip
                    have nok : ¬ okD g (setG w 0 d) 0 := as_no (by omega) (by omega) (by omega) (by omega) hS (Or.inl (by omega))
                    refine z_iinc (L' := [_, _, _, _, _, _]) dX9_assign_170 rfl rfl ?_
                    refine e_goto 64 dX9_assign_173 rfl ?_
                    exact mEv_wk (by exact ⟨Or.inr rfl, Or.inr rfl, Or.inr rfl, Or.inr rfl, Or.inr rfl, Or.inl rfl, trivial⟩) (ih27 _ (by omega) (d + 1) u h27 rfl k28 k29 H30 H31 H32 H33 FR34 (by omega) (asP_sk (c := 0) (d := d) (by omega) (by omega) (by omega) (by omega) (by omega) pa IF rfl (by rw [Int.add_mul, Int.one_mul]; omega) nok) IB)
                  · skip
                    refine e_aload_n dX9_assign_106 rfl ?_
                    refine e_get (.ref (y + 4)) dX9_assign_107 tf_9_25 (congrArg Prod.fst (wk_s0 k28)) (congrArg va_rf (wk_r0_4 k28)) ?_
                    refine e_iload dX9_assign_110 rfl ?_
                    refine z_bipush (64) dX9_assign_112 rfl ?_
                    refine z_imul dX9_assign_114 ?_
                    refine e_iload dX9_assign_115 rfl ?_
                    refine z_iadd dX9_assign_117 ?_
                    refine z_zld (rI h27 (y + 4) ((d * 64) + (orZ (rI h27 (y + 5) d) (shlZ 1 0)))) dX9_assign_118 (wk_s4 k28) (by decide) (by omega) (by omega) rfl ?_
                    have y85 := mgT_b H31 (d := d) (s := (orZ (rI h27 (y + 5) d) (shlZ 1 0))) (by omega) (by omega) (by omega) (by omega)
                    refine z_if_eq 170 dX9_assign_119 rfl ⟨by omega, by omega⟩ (fun c86 => ?_) (fun c86 => ?_)
                    · skip
                      have nok : ¬ okD g (setG w 0 d) 0 := as_no (by omega) (by omega) (by omega) (by omega) hS (Or.inr (mgT_0 H31 (by omega) (by omega) (by omega) (by omega) (by assumption)))
                      refine z_iinc (L' := [_, _, _, _, _, _]) dX9_assign_170 rfl rfl ?_
                      refine e_goto 64 dX9_assign_173 rfl ?_
                      exact mEv_wk (by exact ⟨Or.inr rfl, Or.inr rfl, Or.inr rfl, Or.inr rfl, Or.inr rfl, Or.inl rfl, trivial⟩) (ih27 _ (by omega) (d + 1) u h27 rfl k28 k29 H30 H31 H32 H33 FR34 (by omega) (asP_sk (c := 0) (d := d) (by omega) (by omega) (by omega) (by omega) (by omega) pa IF rfl (by rw [Int.add_mul, Int.one_mul]; omega) nok) IB)
                    · skip
                      have mgy : mgP g d (orZ (rI h27 (y + 5) d) (shlZ 1 0)) := mgT_1 H31 (by omega) (by omega) (by omega) (by omega) (by assumption)
                      refine e_aload_n dX9_assign_122 rfl ?_
                      refine e_get (.ref (y + 5)) dX9_assign_123 tf_9_29 (congrArg Prod.fst (wk_s0 k28)) (congrArg va_rf (wk_r0_5 k28)) ?_
                      refine e_iload dX9_assign_126 rfl ?_
                      refine e_iload dX9_assign_128 rfl ?_
                      refine z_ist dX9_assign_130 (wk_s5 k28) (by decide) (by omega) (by omega) (fun h87 e88 => ?_)
                      have f89 := frm_1 e88
                      have k90 := lk_q (frm_s f89) k28
                      have k91 := lk_q (frm_s f89) k29
                      have H92 := isF_c f89 (fun a k q1 q2 => by omega) H30
                      have H93 := mgT_c f89 (fun a k q => by omega) H31
                      have H94 := abU_c f89 (fun a k q => by omega) H32
                      have H95 := bsS_c f89 (fun a k q => by omega) IB
                      have FR96 := frm_t FR34 (frm_m (S' := (fun a k => (a = y ∧ k = 1) ∨ a = y + 1 ∨ a = y + 2 ∨ a = y + 5)) f89 (fun a k q => by omega))
                      refine e_aload_n dX9_assign_131 rfl ?_
                      refine e_get (.ref (y + 2)) dX9_assign_132 tf_9_19 (congrArg Prod.fst (wk_s0 k90)) (congrArg va_rf (wk_r0_2 k90)) ?_
                      refine e_iload_n dX9_assign_135 rfl ?_
                      refine e_iload dX9_assign_136 rfl ?_
                      refine z_ist dX9_assign_138 (wk_s2 k90) (by decide) (by omega) (by omega) (fun h97 e98 => ?_)
                      have f99 := frm_1 e98
                      have k100 := lk_q (frm_s f99) k90
                      have k101 := lk_q (frm_s f99) k91
                      have H102 := isF_c f99 (fun a k q1 q2 => by omega) H92
                      have H103 := mgT_c f99 (fun a k q => by omega) H93
                      have H104 := abU_c f99 (fun a k q => by omega) H94
                      have H105 := bsS_c f99 (fun a k q => by omega) H95
                      have FR106 := frm_t FR96 (frm_m (S' := (fun a k => (a = y ∧ k = 1) ∨ a = y + 1 ∨ a = y + 2 ∨ a = y + 5)) f99 (fun a k q => by omega))
                      have A107 : asS h97 y (setG w 0 d) (0 + 1) := asS_y H33 (by omega) (by omega) (by omega) rfl (by exact ((frm_r f99 (by omega)).trans (rI_eq e88 ⟨by omega, by omega⟩))) (fun e a b n => ((frm_r f99 (by omega)).trans (frm_r f89 (by omega)))) (by exact (rI_eq e98 ⟨by omega, by omega⟩)) (fun e a b => ((frm_r f99 (by omega)).trans (frm_r f89 (by omega))))
                      have oky : okD g (setG w 0 d) 0 := as_ok (by omega) (by omega) (by omega) (by omega) (by omega) hS mgy
                      have pin := asP_in (c := 0) (d := d) (by omega) pa IF rfl oky (s + pr g 0) (by rw [if_pos (by omega)])
                      refine e_aload_n dX9_assign_139 rfl ?_
                      refine e_aload_n dX9_assign_140 rfl ?_
                      refine e_iload_n dX9_assign_141 rfl ?_
                      refine z_iconst (1) dX9_assign_142 rfl ?_
                      refine z_iadd dX9_assign_143 ?_
                      refine e_iload_n dX9_assign_144 rfl ?_
                      refine e_aload_n dX9_assign_145 rfl ?_
                      refine e_get (.ref (f + 14)) dX9_assign_146 tf_9_75 (congrArg Prod.fst (fg_s0 k101)) (congrArg va_rf (fg_r0_3 k101)) ?_
                      refine e_iload_n dX9_assign_149 rfl ?_
                      refine z_ild (pr g 0) dX9_assign_150 (fg_s14 k101) (by decide) (by omega) (by omega) (isF_pr H102 (by omega) (by omega)) ?_
                      have y108 := wC_c (isF_w H102).2.2 (show 0 ≤ 0 by omega) (by omega)
                      refine z_iadd dX9_assign_151 ?_
                      refine e_callV [.ref _, .int _, .int _] dX9_assign_152 tm_9_52 rfl (Nat.le_of_ble_eq_true rfl) (congrArg Prod.fst (wk_s0 k100)) (Nat.le_of_ble_eq_true rfl) (Nat.le_refl _) (Nat.le_refl _) rfl (zp_X9_assign_1 k100 k101 H102 H103 H104 A107 H105 (s + (pr g 0)) ⟨by omega, by omega⟩ (by omega) pin (by omega) (fun  h109 f110 p111 p112 => ?_))
                      have k113 := lk_q (frm_s f110) k100
                      have k114 := lk_q (frm_s f110) k101
                      have H115 := isF_c f110 (fun a k q1 q2 => by omega) H102
                      have H116 := mgT_c f110 (fun a k q => by omega) H103
                      have H117 := abU_c f110 (fun a k q => by omega) H104
                      have FR118 := frm_t FR106 (frm_m (S' := (fun a k => (a = y ∧ k = 1) ∨ a = y + 1 ∨ a = y + 2 ∨ a = y + 5)) f110 (fun a k q => by omega))
                      obtain ⟨u2, F2, B2⟩ := p111
                      refine e_aload_n dX9_assign_155 rfl ?_
                      refine e_get (.ref (y + 5)) dX9_assign_156 tf_9_29 (congrArg Prod.fst (wk_s0 k113)) (congrArg va_rf (wk_r0_5 k113)) ?_
                      refine e_iload dX9_assign_159 rfl ?_
                      refine e_iload dX9_assign_161 rfl ?_
                      refine z_iconst (1) dX9_assign_163 rfl ?_
                      refine e_iload_n dX9_assign_164 rfl ?_
                      refine z_ishl dX9_assign_165 (by omega) (by omega) (by omega) (by omega) ?_
                      have y119 := shlZ_b 1 0
                      refine z_iconst (-1) dX9_assign_166 rfl ?_
                      refine z_inot dX9_assign_167 (by omega) ?_
                      refine z_iandn dX9_assign_168 (by omega) (by omega) ?_
                      have y120 := subS_b (orZ (rI h27 (y + 5) d) (shlZ 1 0)) (shlZ 1 0)
                      refine z_ist dX9_assign_169 (wk_s5 k113) (by decide) (by omega) (by omega) (fun h121 e122 => ?_)
                      have f123 := frm_1 e122
                      have k124 := lk_q (frm_s f123) k113
                      have k125 := lk_q (frm_s f123) k114
                      have H126 := isF_c f123 (fun a k q1 q2 => by omega) H115
                      have H127 := mgT_c f123 (fun a k q => by omega) H116
                      have H128 := abU_c f123 (fun a k q => by omega) H117
                      have FR129 := frm_t FR118 (frm_m (S' := (fun a k => (a = y ∧ k = 1) ∨ a = y + 1 ∨ a = y + 2 ∨ a = y + 5)) f123 (fun a k q => by omega))
                      have A130 : asS h121 y w 0 := asS_z p112 (by omega) (by omega) (by omega) hS ob (by exact (rI_eq e122 ⟨by omega, by omega⟩)) (fun e a b n => (frm_r f123 (by omega))) (fun e a b => (frm_r f123 (by omega)))
                      have B131 := bsS_c f123 (fun a k q => by omega) B2
                      refine z_iinc (L' := [_, _, _, _, _, _]) dX9_assign_170 rfl rfl ?_
                      refine e_goto 64 dX9_assign_173 rfl ?_
                      exact mEv_wk (by exact ⟨Or.inr rfl, Or.inr rfl, Or.inr rfl, Or.inr rfl, Or.inr rfl, Or.inl rfl, trivial⟩) (ih27 _ (by omega) (d + 1) u2 h121 rfl k124 k125 H126 H127 H128 A130 FR129 (by omega) (by have zz : cdZ (setG w 0 d) (0 + 1) + scZ (0 + 1) = cdZ w 0 + (d + 1) * scZ (0 + 1) := (by rw [cd_set (by omega), Int.add_mul, Int.one_mul]; omega); rw [← zz]; exact F2) B131)
            exact lp27 _ 0 v h rfl hk hk1 HF HT HU HA FR0 (by omega) (by rw [Int.zero_mul, Int.add_zero]; exact pa.2.2) HV
          · exfalso; omega
      · skip
        skip
        refine e_vret dX9_assign_25 rfl ⟨rfl, ?_⟩
        exact kq _ FR0 (asP_prune wf (by omega) pn pa HU HV (by omega)) HA
