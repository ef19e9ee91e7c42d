/-! ROWS: the search through all -/
theorem dX12_findBest_0 : decode cX12_findBest 0 = .ok (.aload_n 0, 1) := by decide +kernel
theorem dX12_findBest_1 : decode cX12_findBest 1 = .ok (.ldc_w 406, 3) := by decide +kernel
theorem dX12_findBest_4 : decode cX12_findBest 4 = .ok (.putfield 419, 3) := by decide +kernel
theorem dX12_findBest_7 : decode cX12_findBest 7 = .ok (.aload_n 0, 1) := by decide +kernel
theorem dX12_findBest_8 : decode cX12_findBest 8 = .ok (.iconst 0, 1) := by decide +kernel
theorem dX12_findBest_9 : decode cX12_findBest 9 = .ok (.putfield 422, 3) := by decide +kernel
theorem dX12_findBest_12 : decode cX12_findBest 12 = .ok (.iconst 0, 1) := by decide +kernel
theorem dX12_findBest_13 : decode cX12_findBest 13 = .ok (.istore_n 2, 1) := by decide +kernel
theorem dX12_findBest_14 : decode cX12_findBest 14 = .ok (.iload_n 2, 1) := by decide +kernel
theorem dX12_findBest_15 : decode cX12_findBest 15 = .ok (.ldc_w 425, 3) := by decide +kernel
theorem dX12_findBest_18 : decode cX12_findBest 18 = .ok (.if_icmp .ge 92, 3) := by decide +kernel
theorem dX12_findBest_21 : decode cX12_findBest 21 = .ok (.aload_n 0, 1) := by decide +kernel
theorem dX12_findBest_22 : decode cX12_findBest 22 = .ok (.iload_n 2, 1) := by decide +kernel
theorem dX12_findBest_23 : decode cX12_findBest 23 = .ok (.invokevirtual 426, 3) := by decide +kernel
theorem dX12_findBest_26 : decode cX12_findBest 26 = .ok (.ifCond .eq 78, 3) := by decide +kernel
theorem dX12_findBest_29 : decode cX12_findBest 29 = .ok (.aload_n 0, 1) := by decide +kernel
theorem dX12_findBest_30 : decode cX12_findBest 30 = .ok (.iload_n 1, 1) := by decide +kernel
theorem dX12_findBest_31 : decode cX12_findBest 31 = .ok (.invokevirtual 429, 3) := by decide +kernel
theorem dX12_findBest_34 : decode cX12_findBest 34 = .ok (.istore_n 3, 1) := by decide +kernel
theorem dX12_findBest_35 : decode cX12_findBest 35 = .ok (.aload_n 0, 1) := by decide +kernel
theorem dX12_findBest_36 : decode cX12_findBest 36 = .ok (.dup, 1) := by decide +kernel
theorem dX12_findBest_37 : decode cX12_findBest 37 = .ok (.getfield 422, 3) := by decide +kernel
theorem dX12_findBest_40 : decode cX12_findBest 40 = .ok (.iload_n 1, 1) := by decide +kernel
theorem dX12_findBest_41 : decode cX12_findBest 41 = .ok (.iconst 3, 1) := by decide +kernel
theorem dX12_findBest_42 : decode cX12_findBest 42 = .ok (.if_icmp .ne 14, 3) := by decide +kernel
theorem dX12_findBest_45 : decode cX12_findBest 45 = .ok (.iload_n 3, 1) := by decide +kernel
theorem dX12_findBest_46 : decode cX12_findBest 46 = .ok (.ldc_w 406, 3) := by decide +kernel
theorem dX12_findBest_49 : decode cX12_findBest 49 = .ok (.if_icmp .le 7, 3) := by decide +kernel
theorem dX12_findBest_52 : decode cX12_findBest 52 = .ok (.iconst 1, 1) := by decide +kernel
theorem dX12_findBest_53 : decode cX12_findBest 53 = .ok (.goto 4, 3) := by decide +kernel
theorem dX12_findBest_56 : decode cX12_findBest 56 = .ok (.iconst 0, 1) := by decide +kernel
theorem dX12_findBest_57 : decode cX12_findBest 57 = .ok (.iadd, 1) := by decide +kernel
theorem dX12_findBest_58 : decode cX12_findBest 58 = .ok (.putfield 422, 3) := by decide +kernel
theorem dX12_findBest_61 : decode cX12_findBest 61 = .ok (.iload_n 3, 1) := by decide +kernel
theorem dX12_findBest_62 : decode cX12_findBest 62 = .ok (.aload_n 0, 1) := by decide +kernel
theorem dX12_findBest_63 : decode cX12_findBest 63 = .ok (.getfield 419, 3) := by decide +kernel
theorem dX12_findBest_66 : decode cX12_findBest 66 = .ok (.if_icmp .le 38, 3) := by decide +kernel
theorem dX12_findBest_69 : decode cX12_findBest 69 = .ok (.aload_n 0, 1) := by decide +kernel
theorem dX12_findBest_70 : decode cX12_findBest 70 = .ok (.iload_n 3, 1) := by decide +kernel
theorem dX12_findBest_71 : decode cX12_findBest 71 = .ok (.putfield 419, 3) := by decide +kernel
theorem dX12_findBest_74 : decode cX12_findBest 74 = .ok (.iconst 0, 1) := by decide +kernel
theorem dX12_findBest_75 : decode cX12_findBest 75 = .ok (.istore 4, 2) := by decide +kernel
theorem dX12_findBest_77 : decode cX12_findBest 77 = .ok (.iload 4, 2) := by decide +kernel
theorem dX12_findBest_79 : decode cX12_findBest 79 = .ok (.bipush 6, 2) := by decide +kernel
theorem dX12_findBest_81 : decode cX12_findBest 81 = .ok (.if_icmp .ge 23, 3) := by decide +kernel
theorem dX12_findBest_84 : decode cX12_findBest 84 = .ok (.aload_n 0, 1) := by decide +kernel
theorem dX12_findBest_85 : decode cX12_findBest 85 = .ok (.getfield 59, 3) := by decide +kernel
theorem dX12_findBest_88 : decode cX12_findBest 88 = .ok (.iload 4, 2) := by decide +kernel
theorem dX12_findBest_90 : decode cX12_findBest 90 = .ok (.aload_n 0, 1) := by decide +kernel
theorem dX12_findBest_91 : decode cX12_findBest 91 = .ok (.getfield 56, 3) := by decide +kernel
theorem dX12_findBest_94 : decode cX12_findBest 94 = .ok (.iload 4, 2) := by decide +kernel
theorem dX12_findBest_96 : decode cX12_findBest 96 = .ok (.iaload, 1) := by decide +kernel
theorem dX12_findBest_97 : decode cX12_findBest 97 = .ok (.iastore, 1) := by decide +kernel
theorem dX12_findBest_98 : decode cX12_findBest 98 = .ok (.iinc 4 1, 3) := by decide +kernel
theorem dX12_findBest_101 : decode cX12_findBest 101 = .ok (.goto (-24), 3) := by decide +kernel
theorem dX12_findBest_104 : decode cX12_findBest 104 = .ok (.iinc 2 1, 3) := by decide +kernel
theorem dX12_findBest_107 : decode cX12_findBest 107 = .ok (.goto (-93), 3) := by decide +kernel
theorem dX12_findBest_110 : decode cX12_findBest 110 = .ok (.iconst 0, 1) := by decide +kernel
theorem dX12_findBest_111 : decode cX12_findBest 111 = .ok (.istore_n 2, 1) := by decide +kernel
theorem dX12_findBest_112 : decode cX12_findBest 112 = .ok (.iload_n 2, 1) := by decide +kernel
theorem dX12_findBest_113 : decode cX12_findBest 113 = .ok (.bipush 6, 2) := by decide +kernel
theorem dX12_findBest_115 : decode cX12_findBest 115 = .ok (.if_icmp .ge 21, 3) := by decide +kernel
theorem dX12_findBest_118 : decode cX12_findBest 118 = .ok (.aload_n 0, 1) := by decide +kernel
theorem dX12_findBest_119 : decode cX12_findBest 119 = .ok (.getfield 56, 3) := by decide +kernel
theorem dX12_findBest_122 : decode cX12_findBest 122 = .ok (.iload_n 2, 1) := by decide +kernel
theorem dX12_findBest_123 : decode cX12_findBest 123 = .ok (.aload_n 0, 1) := by decide +kernel
theorem dX12_findBest_124 : decode cX12_findBest 124 = .ok (.getfield 59, 3) := by decide +kernel
theorem dX12_findBest_127 : decode cX12_findBest 127 = .ok (.iload_n 2, 1) := by decide +kernel
theorem dX12_findBest_128 : decode cX12_findBest 128 = .ok (.iaload, 1) := by decide +kernel
theorem dX12_findBest_129 : decode cX12_findBest 129 = .ok (.iastore, 1) := by decide +kernel
theorem dX12_findBest_130 : decode cX12_findBest 130 = .ok (.iinc 2 1, 3) := by decide +kernel
theorem dX12_findBest_133 : decode cX12_findBest 133 = .ok (.goto (-21), 3) := by decide +kernel
theorem dX12_findBest_136 : decode cX12_findBest 136 = .ok (.return_, 1) := by decide +kernel
theorem tf_12_419 : tFld TB0 12 419 = some (12, 45) := rfl
theorem tf_12_422 : tFld TB0 12 422 = some (12, 46) := rfl
set_option maxRecDepth 20000 in
theorem tm_12_426 : tMet TB0 12 426 = some (0, M_X12_isRow) := rfl
set_option maxRecDepth 20000 in
theorem tm_12_429 : tMet TB0 12 429 = some (0, M_X12_worthBy) := rfl
theorem tl_12_425 : tLdc TB0 12 425 = some (.inl (117649)) := rfl
/-! there is a row that stands -/
theorem da_go {K : Int → Int → Int} {na no : Int} (n : (0 ≤ na ∧ na ≤ 6) ∧ (0 ≤ no ∧ no ≤ 6)) : ∀ (m : Nat) (A H L : Int → Int), (36 - smA A).toNat = m → daI K na no A H L → ∃ A H L, daI K na no A H L ∧ dnA na no A L 6 := by
  intro m
  induction m using Nat.strongRecOn with
  | ind m ih =>
    intro A H L hm I
    by_cases q : dnA na no A L 6
    · exact ⟨A, H, L, I, q⟩
    · obtain ⟨a, ha⟩ := Classical.not_forall.mp q
      have a0 : 0 ≤ a := Decidable.byContradiction (fun z => ha (fun w => absurd w z))
      have a1 : a < 6 := Decidable.byContradiction (fun z => ha (fun _ w => absurd w z))
      have a2 : a < na := Decidable.byContradiction (fun z => ha (fun _ _ w => absurd w z))
      have a3 : ¬ (L a = 1 ∨ ∀ b, 0 ≤ b → b < no → hasZ (A a) b) := fun z => ha (fun _ _ _ => z)
      have l0 : L a = 0 := by
        rcases da_Lb I a0 a1 with z | z
        · exact z
        · exact absurd (Or.inl z) a3
      have f := fmP_f (fun k => ¬ hasZ (A a) k) (K a) no.toNat
      rw [Int.toNat_of_nonneg n.2.1] at f
      generalize fmP (fun k => ¬ hasZ (A a) k) (K a) no.toNat = b at f
      have fb := fmax_b f
      have bn : b ≠ -1 := fun z => a3 (Or.inr (nf_none f z))
      have nb := nf_best f bn
      have nh := da_nh I a0 a1 l0
      have hb := da_Hb I (b := b) (by omega) (by omega)
      have nhb := nh b (by omega) (by omega)
      have eA : setG A a (orZ (A a) (shlZ 1 b)) a = orZ (A a) (shlZ 1 b) := if_pos rfl
      have oA : ∀ x, 0 ≤ x → x < 6 → x ≠ a → setG A a (orZ (A a) (shlZ 1 b)) x = A x := fun x _ _ z => if_neg z
      have s := smA_ask (A := A) (A' := setG A a (orZ (A a) (shlZ 1 b))) a0 a1 (by omega) (by omega) nb.1 eA oA
      have sb := smA_b (setG A a (orZ (A a) (shlZ 1 b)))
      by_cases t : H b = 6 ∨ K (H b) b < K a b
      · exact ih _ (by omega) (setG A a (orZ (A a) (shlZ 1 b))) (setG H b a) (fun x => if x = a then 1 else if x = H b then 0 else L x) rfl (daI_ask (by omega) I a0 a2 (by omega) (by omega) nh nb.1 nb.2 eA oA (Or.inl ⟨t, if_pos rfl, fun x _ _ z => if_neg z, if_pos rfl, fun x _ _ z w => by rw [if_neg z, if_pos w], fun x _ _ z w => by rw [if_neg z, if_neg w]⟩))
      · exact ih _ (by omega) (setG A a (orZ (A a) (shlZ 1 b))) H L rfl (daI_ask (by omega) I a0 a2 (by omega) (by omega) nh nb.1 nb.2 eA oA (Or.inr ⟨t, fun x _ _ => rfl, fun x _ _ => rfl⟩))
theorem stn_ex {g : Int → Int} (n : (0 ≤ nd g ∧ nd g ≤ 6) ∧ (0 ≤ nu g ∧ nu g ≤ 6)) : ∃ r, isRw g r ∧ stn g r := by
  obtain ⟨A, H, L, I, dn⟩ := da_go (K := fun a b => KY g a b) (na := nd g) (no := nu g) n _ (fun _ => 0) (fun _ => 6) (fun _ => 0) rfl (daI_0 _ _ _ (fun x _ _ => ⟨rfl, rfl, rfl⟩) n.1.2)
  refine ⟨fun d => if fsN (fun u => H u = d) 6 = -1 then 6 else fsN (fun u => H u = d) 6, da_down n I dn (fun d a b => ?_)⟩
  rcases fsN_f (fun u => H u = d) 6 with ⟨q1, q2⟩ | ⟨q1, q2, q3⟩
  · rw [if_pos q1]
    exact Or.inl ⟨rfl, q2⟩
  · have q1 : 0 ≤ fsN (fun u => H u = d) 6 ∧ fsN (fun u => H u = d) 6 < 6 := q1
    rw [if_neg (by omega)]
    exact Or.inr ⟨q1, q2⟩
theorem dg_row {r : Int → Int} (h : rbs r) : (0 ≤ cdZ r 6 ∧ cdZ r 6 < 117649) ∧ ∀ d, 0 ≤ d → d < 6 → dgZ (cdZ r 6) d = r d := by
  have b := cd_b (w := r) (n := 6) (by omega) (by omega) h
  have s := sc_6
  exact ⟨by omega, fun d a c => dg_in (n := 6) (by omega) (by omega) h (by omega) (by omega) a c⟩
theorem dg_k {k : Int} (h0 : 0 ≤ k) (h1 : k < 117649) : cdZ (dgZ k) 6 = k := by
  have u := (cd_u (dgZ k)).2.2.2.2.2
  have e0 : dgZ k 0 = k / 16807 % 7 := rfl
  have e1 : dgZ k 1 = k / 2401 % 7 := rfl
  have e2 : dgZ k 2 = k / 343 % 7 := rfl
  have e3 : dgZ k 3 = k / 49 % 7 := rfl
  have e4 : dgZ k 4 = k / 7 % 7 := rfl
  have e5 : dgZ k 5 = k / 1 % 7 := rfl
  rw [u, e0, e1, e2, e3, e4, e5]
  omega
theorem dg_u {k k' : Int} (h0 : 0 ≤ k) (h1 : k < 117649) (h0' : 0 ≤ k') (h1' : k' < 117649) (e : ∀ d, 0 ≤ d → d < 6 → dgZ k d = dgZ k' d) : k = k' := by
  rw [← dg_k h0 h1, ← dg_k h0' h1', cd_e e]
def vaB (g : Int → Int) (how k : Int) : Prop := isRw g (dgZ k) ∧ -1000000 < wtB g how (dgZ k)
noncomputable def wtK (g : Int → Int) (how k : Int) : Int := wtB g how (dgZ k)
noncomputable def stB (g : Int → Int) (k : Int) : Int := @bZ (vaB g 3 k) (Classical.propDecidable _)
theorem stB_1 {g : Int → Int} {k : Int} (h : vaB g 3 k) : stB g k = 1 := by unfold stB; exact @bZ_1 _ (Classical.propDecidable _) h
theorem stB_0 {g : Int → Int} {k : Int} (h : ¬ vaB g 3 k) : stB g k = 0 := by unfold stB; exact @bZ_0 _ (Classical.propDecidable _) h
noncomputable def stC (g : Int → Int) (how k : Int) : Int := if how = 3 then sumZ (fun k => stB g k) k.toNat else 0
theorem stC_b (g : Int → Int) (how : Int) {k : Int} (h : 0 ≤ k) : 0 ≤ stC g how k ∧ stC g how k ≤ k := by
  have := sumZ_b (f := fun k => stB g k) (lo := 0) (hi := 1) (n := k.toNat) (fun i _ _ => by
    by_cases q : vaB g 3 i
    · rw [stB_1 q]; omega
    · rw [stB_0 q]; omega)
  unfold stC
  split <;> omega
theorem stC_s {g : Int → Int} {k : Int} (h : 0 ≤ k) : (vaB g 3 k → stC g 3 (k + 1) = stC g 3 k + 1) ∧ (¬ vaB g 3 k → stC g 3 (k + 1) = stC g 3 k + 0) := by
  unfold stC
  rw [if_pos rfl, if_pos rfl, sumZ_s h]
  exact ⟨fun q => by rw [stB_1 q], fun q => by rw [stB_0 q]⟩
theorem stC_o {g : Int → Int} {how k : Int} (h : how ≠ 3) : stC g how (k + 1) = stC g how k + 0 := by unfold stC; rw [if_neg h, if_neg h]; rfl
theorem va3 {g : Int → Int} (n : (0 ≤ nd g ∧ nd g ≤ 6) ∧ (0 ≤ nu g ∧ nu g ≤ 6)) {k : Int} : vaB g 3 k ↔ isRw g (dgZ k) ∧ stn g (dgZ k) := by
  have c := chR_b n.1 (dgZ k)
  unfold vaB wtB
  rw [if_pos rfl]
  constructor
  · rintro ⟨a, b⟩
    refine ⟨a, (lvN_0 ⟨n.1.1, n.2.1⟩).mp ?_⟩
    by_cases q : 0 < lvN g (dgZ k)
    · rw [if_pos q] at b; omega
    · omega
  · rintro ⟨a, b⟩
    have q := (lvN_0 ⟨n.1.1, n.2.1⟩).mpr b
    refine ⟨a, ?_⟩
    rw [if_neg (by omega)]; omega
theorem inR_full {g : Int → Int} (n : (0 ≤ nd g ∧ nd g ≤ 6) ∧ (0 ≤ nu g ∧ nu g ≤ 6)) : isRw g (fun d => if d < min (nd g) (nu g) then d else 6) ∧ min (nd g) (nu g) ≤ inR (fun d => if d < min (nd g) (nu g) then d else 6) := by
  refine ⟨fun d a b => ?_, ?_⟩
  · dsimp only
    by_cases q : d < min (nd g) (nu g)
    · rw [if_pos q]
      refine Or.inr ⟨by omega, fun e u v t => ?_⟩
      by_cases z : e < min (nd g) (nu g)
      · rw [if_pos z] at t; exact t
      · rw [if_neg z] at t; omega
    · rw [if_neg q]; exact Or.inl rfl
  · have e : inR (fun d => if d < min (nd g) (nu g) then d else 6) = sumZ (fun d => bZ (d < min (nd g) (nu g))) 6 := sumZ_e (fun d a b => bZ_iff (by
      dsimp only
      by_cases q : d < min (nd g) (nu g)
      · rw [if_pos q]; exact ⟨fun _ => q, fun _ => by omega⟩
      · rw [if_neg q]; exact ⟨fun z => by omega, fun z => absurd z q⟩))
    rw [e]
    have e6 : sumZ (fun d => bZ (d < min (nd g) (nu g))) 6 = 0 + bZ (0 < min (nd g) (nu g)) + bZ (1 < min (nd g) (nu g)) + bZ (2 < min (nd g) (nu g)) + bZ (3 < min (nd g) (nu g)) + bZ (4 < min (nd g) (nu g)) + bZ (5 < min (nd g) (nu g)) := rfl
    rw [e6]
    have hM : min (nd g) (nu g) ≤ 6 := by omega
    unfold bZ
    generalize min (nd g) (nu g) = M at *
    split <;> split <;> split <;> split <;> split <;> split <;> omega
theorem inR_e {r r' : Int → Int} (e : ∀ d, 0 ≤ d → d < 6 → r d = r' d) : inR r = inR r' := sumZ_e (fun d a b => by rw [e d a (by omega)])
theorem lm_e {g r r' : Int → Int} (n : Nat) (h : n ≤ 6) (e : ∀ d, 0 ≤ d → d < 6 → r d = r' d) : lmN g r n = lmN g r' n := by
  induction n with
  | zero => rfl
  | succ n ih =>
    have e1 : lmN g r (n + 1) = if r (n : Int) < 6 then min (lmN g r n) (fitZ g n (r (n : Int))) else lmN g r n := rfl
    have e2 : lmN g r' (n + 1) = if r' (n : Int) < 6 then min (lmN g r' n) (fitZ g n (r' (n : Int))) else lmN g r' n := rfl
    rw [e1, e2, ih (by omega), e n (by omega) (by omega)]
theorem sf_e {g r r' : Int → Int} (e : ∀ d, 0 ≤ d → d < 6 → r d = r' d) : sfR g r = sfR g r' := sumZ_e (fun d a b => by rw [e d a (by omega)])
theorem ch_e {g r r' : Int → Int} (n : nd g ≤ 6) (e : ∀ d, 0 ≤ d → d < 6 → r d = r' d) : chR g r = chR g r' := sumZ_e (fun d a b => by rw [e d a (by omega)])
/-- there is one of each kind -/
theorem vaB_ex {g : Int → Int} (n : (0 ≤ nd g ∧ nd g ≤ 6) ∧ (0 ≤ nu g ∧ nu g ≤ 6)) (how : Int) : ∃ k, (0 ≤ k ∧ k < 117649) ∧ vaB g how k := by
  by_cases h3 : how = 3
  · subst h3
    obtain ⟨r, h1, h2⟩ := stn_ex n
    obtain ⟨b, e⟩ := dg_row (isRw_b n.2.2 h1)
    refine ⟨_, b, (va3 n).mpr ⟨isRw_e h1 e, fun d u d0 d1 u0 u1 lv => h2 d u d0 d1 u0 u1 (lvP_e d0 (by omega) (fun x a c => (e x a c).symm) lv)⟩⟩
  · obtain ⟨h1, h2⟩ := inR_full n
    obtain ⟨b, e⟩ := dg_row (isRw_b n.2.2 h1)
    refine ⟨_, b, isRw_e h1 e, ?_⟩
    unfold wtB
    rw [if_neg h3]
    have s := sfR_b g (dgZ (cdZ (fun d => if d < min (nd g) (nu g) then d else 6) 6))
    have l := lm_b g (dgZ (cdZ (fun d => if d < min (nd g) (nu g) then d else 6) 6)) 6
    split
    · omega
    · rw [inR_e e, if_neg (by omega)]
      show -1000000 < lmN g _ 6; omega
/-- what the search through all rows brings -/
def bsE (h : mH) (m : Nat) (g : Int → Int) (how : Int) : Prop := ∃ v, ((0 ≤ v ∧ v < 117649) ∧ fmax (vaB g how) (wtK g how) 117649 v) ∧ rRw h m g (dgZ v) ∧ rI h m 45 = wtK g how v ∧ rI h m 46 = stC g how 117649
set_option maxHeartbeats 6000000 in
theorem zp_X12_findBest_3 {ad : mA} {dd : Nat} {h : mH} {Q : mQ} {m : Nat} {g : Int → Int} (hk : rk h m) (HB : rB h m g) (HM : rM h m g)    (kq : ∀ h1, frm (fun a k => (a = m ∧ (k = 45 ∨ k = 46)) ∨ (m + 16 ≤ a ∧ a ≤ m + 18)) h h1 → (bsE h1 m g 3) → Q none h1) : mCal TB0 ad (dd + 7) M_X12_findBest [.ref m, .int (zI 3)] h 0 0 Q := by
  refine ⟨Nat.le_of_ble_eq_true rfl, ?_⟩
  show mEv TB0 ad M_X12_findBest (dd + 7) (0, 0) (mCal TB0 ad (dd + 6)) (fun v h' z => z.1 = 0 ∧ Q v h') 0 [some (.ref m), some (.int (zI 3)), none, none, none] [] h (0, 0)
  have FR0 : frm (fun a k => (a = m ∧ (k = 45 ∨ k = 46)) ∨ (m + 16 ≤ a ∧ a ≤ m + 18)) h h := frm_0 h
  have w1 := rB_n HB
  have w2 := rB_nd HB
  have w3 := rB_nu HB
  refine e_aload_n dX12_findBest_0 rfl ?_
  refine z_ldc_w (-1000000) dX12_findBest_1 tl_12_406 rfl ?_
  refine z_put dX12_findBest_4 tf_12_419 (rk_s hk) rfl (Or.inl rfl) (fun h1 e2 => ?_)
  have f3 := frm_1 e2
  have k4 := rk_q (frm_s f3) hk
  have H5 := rB_c f3 (fun a k q => by omega) HB
  have H6 := rM_c f3 (fun a k q => by omega) HM
  have FR7 := frm_t FR0 (frm_m (S' := (fun a k => (a = m ∧ (k = 45 ∨ k = 46)) ∨ (m + 16 ≤ a ∧ a ≤ m + 18))) f3 (fun a k q => by omega))
  refine e_aload_n dX12_findBest_7 rfl ?_
  refine z_iconst (0) dX12_findBest_8 rfl ?_
  refine z_put dX12_findBest_9 tf_12_422 (rk_s k4) rfl (Or.inl rfl) (fun h8 e9 => ?_)
  have f10 := frm_1 e9
  have k11 := rk_q (frm_s f10) k4
  have H12 := rB_c f10 (fun a k q => by omega) H5
  have H13 := rM_c f10 (fun a k q => by omega) H6
  have FR14 := frm_t FR7 (frm_m (S' := (fun a k => (a = m ∧ (k = 45 ∨ k = 46)) ∨ (m + 16 ≤ a ∧ a ≤ m + 18))) f10 (fun a k q => by omega))
  refine z_iconst (0) dX12_findBest_12 rfl ?_
  refine e_istore_n (L' := [_, _, _, _, _]) dX12_findBest_13 (Nat.le_of_ble_eq_true rfl) rfl ?_
  have lp15 : ∀ (n15 : Nat) (k v : Int) (h15 : mH), (117649 - k).toNat = n15 → (rk h15 m) → (rB h15 m g) → (rM h15 m g) → (frm (fun a k => (a = m ∧ (k = 45 ∨ k = 46)) ∨ (m + 16 ≤ a ∧ a ≤ m + 18)) h h15) → (0 ≤ k ∧ k ≤ 117649) → (fmax (vaB g 3) (wtK g 3) k v) → (rI h15 m 45 = if v = -1 then -1000000 else wtK g 3 v) → (v ≠ -1 → ∀ d : Int, 0 ≤ d → d < 6 → rI h15 (m + 17) d = dgZ v d) → (rI h15 m 46 = stC g 3 k) → mEv TB0 ad M_X12_findBest (dd + 7) (0, 0) (mCal TB0 ad (dd + 6)) (fun v h' z => z.1 = 0 ∧ Q v h') 14 [some (.ref m), some (.int (zI 3)), some (.int (zI k)), none, none] [] h15 (0, 0) := by
    intro n15
    induction n15 using Nat.strongRecOn with
    | ind n15 ih15 =>
    intro k v h15 hn15 k16 H17 H18 FR19 B1 B2 B3 B4 B5
    refine e_iload_n dX12_findBest_14 rfl ?_
    have cb := stC_b g 3 (k := k) (by omega)
    have fb := fmax_b B2
    have wb := wtB_b (show (0 ≤ nd g ∧ nd g ≤ 6) ∧ (0 ≤ nu g ∧ nu g ≤ 6) by omega) 3 (dgZ v)
    have wb : -1000000 ≤ wtK g 3 v ∧ wtK g 3 v ≤ 1000000 := wb
    refine z_ldc_w (117649) dX12_findBest_15 tl_12_425 rfl ?_
    refine z_icmp_ge 110 dX12_findBest_18 rfl ⟨by omega, by omega⟩ ⟨by omega, by omega⟩ (fun c20 => ?_) (fun c20 => ?_)
    · skip
      have vx : v ≠ -1 := fun e => by
        obtain ⟨q, q1, q2⟩ := vaB_ex (g := g) (by omega) 3
        rcases B2 with z | z
        · exact z.2 q q1.1 (by omega) q2
        · omega
      refine z_iconst (0) dX12_findBest_110 rfl ?_
      refine e_istore_n (L' := [_, _, _, _, _]) dX12_findBest_111 (Nat.le_of_ble_eq_true rfl) rfl ?_
      have lp21 : ∀ (n21 : Nat) (y : Int) (h21 : mH), (6 - y).toNat = n21 → (rk h21 m) → (rB h21 m g) → (rM h21 m g) → (frm (fun a k => (a = m ∧ (k = 45 ∨ k = 46)) ∨ (m + 16 ≤ a ∧ a ≤ m + 18)) h h21) → (0 ≤ y ∧ y ≤ 6) → (∀ d : Int, 0 ≤ d → d < y → rI h21 (m + 16) d = dgZ v d) → (∀ d : Int, 0 ≤ d → d < 6 → rI h21 (m + 17) d = dgZ v d) → (rI h21 m 45 = wtK g 3 v ∧ rI h21 m 46 = stC g 3 117649) → mEv TB0 ad M_X12_findBest (dd + 7) (0, 0) (mCal TB0 ad (dd + 6)) (fun v h' z => z.1 = 0 ∧ Q v h') 112 [some (.ref m), some (.int (zI 3)), some (.int (zI y)), none, none] [] h21 (0, 0) := by
        intro n21
        induction n21 using Nat.strongRecOn with
        | ind n21 ih21 =>
        intro y h21 hn21 k22 H23 H24 FR25 Y1 Y2 Y3 Y4
        refine e_iload_n dX12_findBest_112 rfl ?_
        refine z_bipush (6) dX12_findBest_113 rfl ?_
        refine z_icmp_ge 136 dX12_findBest_115 rfl ⟨by omega, by omega⟩ ⟨by omega, by omega⟩ (fun c26 => ?_) (fun c26 => ?_)
        · skip
          refine e_vret dX12_findBest_136 rfl ⟨rfl, ?_⟩
          have ff : fmax (vaB g 3) (wtK g 3) 117649 v := by rw [show (117649 : Int) = k by omega]; exact B2
          have vr := (fmax_p ff vx).1
          exact kq _ FR25 ⟨v, ⟨by omega, ff⟩, ⟨⟨vr, isRw_b (by omega) vr⟩, fun d a c => Y2 d a (by omega)⟩, Y4⟩
        · skip
          refine e_aload_n dX12_findBest_118 rfl ?_
          refine e_get (.ref (m + 16)) dX12_findBest_119 tf_12_56 (rk_s k22) (congrArg va_rf (rk_r16 k22)) ?_
          refine e_iload_n dX12_findBest_122 rfl ?_
          refine e_aload_n dX12_findBest_123 rfl ?_
          refine e_get (.ref (m + 17)) dX12_findBest_124 tf_12_59 (rk_s k22) (congrArg va_rf (rk_r17 k22)) ?_
          refine e_iload_n dX12_findBest_127 rfl ?_
          refine z_ild (dgZ v y) dX12_findBest_128 (rk_a17 k22) (by decide) (by omega) (by omega) (Y3 y (by omega) (by omega)) ?_
          have y27 := dg_b v y
          refine z_ist dX12_findBest_129 (rk_a16 k22) (by decide) (by omega) (by omega) (fun h28 e29 => ?_)
          have f30 := frm_1 e29
          have k31 := rk_q (frm_s f30) k22
          have H32 := rB_c f30 (fun a k q => by omega) H23
          have H33 := rM_c f30 (fun a k q => by omega) H24
          have FR34 := frm_t FR25 (frm_m (S' := (fun a k => (a = m ∧ (k = 45 ∨ k = 46)) ∨ (m + 16 ≤ a ∧ a ≤ m + 18))) f30 (fun a k q => by omega))
          refine z_iinc (L' := [_, _, _, _, _]) dX12_findBest_130 rfl rfl ?_
          refine e_goto 112 dX12_findBest_133 rfl ?_
          exact ih21 _ (by omega) (y + 1) h28 rfl k31 H32 H33 FR34 (by omega) (fun d a c => by
                    by_cases q : d = y
                    · rw [q]; exact (rI_eq e29 ⟨by omega, by omega⟩)
                    · exact ((frm_r f30 (by omega))).trans (Y2 d a (by omega))) (fun d a c => ((frm_r f30 (by omega))).trans (Y3 d a c)) (⟨((frm_r f30 (by omega))).trans Y4.1, ((frm_r f30 (by omega))).trans Y4.2⟩)
      exact lp21 _ 0 h15 rfl k16 H17 H18 FR19 (by omega) (fun d a c => by omega) (B4 vx) (⟨by rw [if_neg vx] at B3; exact B3, by rw [B5, show k = 117649 by omega]⟩)
    · skip
      refine e_aload_n dX12_findBest_21 rfl ?_
      refine e_iload_n dX12_findBest_22 rfl ?_
      refine e_callV [.int _] dX12_findBest_23 tm_12_426 rfl (Nat.le_of_ble_eq_true rfl) (rk_s k16) (Nat.le_of_ble_eq_true rfl) (Nat.le_refl _) (Nat.le_refl _) rfl (zp_X12_isRow k16 H17 k ⟨by omega, by omega⟩ (by omega) (fun v35 p36 h37 f38 p39 => ?_))
      have k40 := rk_q (frm_s f38) k16
      have H41 := rB_c f38 (fun a k q => by omega) H17
      have H42 := rM_c f38 (fun a k q => by omega) H18
      have FR43 := frm_t FR19 (frm_m (S' := (fun a k => (a = m ∧ (k = 45 ∨ k = 46)) ∨ (m + 16 ≤ a ∧ a ≤ m + 18))) f38 (fun a k q => by omega))
      skip
      have ir : (v35 = 1 ∧ isRw g (dgZ k)) ∨ (v35 = 0 ∧ ¬ isRw g (dgZ k)) := by assumption
      have irb : v35 = 0 ∨ v35 = 1 := by rcases ir with q | q; exact Or.inr q.1; exact Or.inl q.1
      refine z_if_eq 104 dX12_findBest_26 rfl ⟨by omega, by omega⟩ (fun c44 => ?_) (fun c44 => ?_)
      · skip
        skip
        skip
        refine z_iinc (L' := [_, _, _, _, _]) dX12_findBest_104 rfl rfl ?_
        refine e_goto 14 dX12_findBest_107 rfl ?_
        exact ih15 _ (by omega) (k + 1) v h37 rfl k40 H41 H42 FR43 (by omega) (fmax_no B2 (fun z => by rcases ir with q | q; omega; exact q.2 z.1)) (((frm_r f38 (by omega))).trans B3) (fun z d a c => ((frm_r f38 (by omega))).trans (B4 z d a c)) ((((frm_r f38 (by omega))).trans B5).trans (by rw [(stC_s (by omega)).2 (fun z => by rcases ir with q | q; omega; exact q.2 z.1)]; omega))
      · skip
        have rw1 : isRw g (dgZ k) := by rcases ir with q | q; exact q.2; exact absurd q.1 (by omega)
        have RW := p39 (by omega)
        refine e_aload_n dX12_findBest_29 rfl ?_
        refine e_iload_n dX12_findBest_30 rfl ?_
        refine e_callV [.int _] dX12_findBest_31 tm_12_429 rfl (Nat.le_of_ble_eq_true rfl) (rk_s k40) (Nat.le_of_ble_eq_true rfl) (Nat.le_refl _) (Nat.le_refl _) rfl (zp_X12_worthBy_3 k40 H41 H42 RW (fun  h45 f46  => ?_))
        have k47 := rk_q (frm_s f46) k40
        have H48 := rB_c f46 (fun a k q => by omega) H41
        have H49 := rM_c f46 (fun a k q => by omega) H42
        have H50 := rRw_c f46 (fun a k q => by omega) RW
        have FR51 := frm_t FR43 (frm_m (S' := (fun a k => (a = m ∧ (k = 45 ∨ k = 46)) ∨ (m + 16 ≤ a ∧ a ≤ m + 18))) f46 (fun a k q => by omega))
        have y52 := wtB_b (show (0 ≤ nd g ∧ nd g ≤ 6) ∧ (0 ≤ nu g ∧ nu g ≤ 6) by omega) 3 (dgZ k)
        have wk : (wtB g 3 (dgZ k)) = wtK g 3 k := rfl
        have va : -1000000 < wtK g 3 k → vaB g 3 k := fun z => ⟨rw1, z⟩
        have vn : wtK g 3 k ≤ -1000000 → ¬ vaB g 3 k := fun z w => by have w2 : -1000000 < wtK g 3 k := w.2; omega
        refine e_istore_n (L' := [_, _, _, _, _]) dX12_findBest_34 (Nat.le_of_ble_eq_true rfl) rfl ?_
        refine e_aload_n dX12_findBest_35 rfl ?_
        refine e_dup dX12_findBest_36 rfl ?_
        refine z_get (stC g 3 k) dX12_findBest_37 tf_12_422 (rk_s k47) (Or.inl rfl) ((((frm_r f46 (by omega)).trans (frm_r f38 (by omega)))).trans B5) ?_
        refine e_iload_n dX12_findBest_40 rfl ?_
        refine z_iconst (3) dX12_findBest_41 rfl ?_
        refine z_icmp_ne 56 dX12_findBest_42 rfl ⟨by omega, by omega⟩ ⟨by omega, by omega⟩ (fun c53 => ?_) (fun c53 => ?_)
        · exfalso; omega
        · skip
          refine e_iload_n dX12_findBest_45 rfl ?_
          refine z_ldc_w (-1000000) dX12_findBest_46 tl_12_406 rfl ?_
          refine z_icmp_le 56 dX12_findBest_49 rfl ⟨by omega, by omega⟩ ⟨by omega, by omega⟩ (fun c54 => ?_) (fun c54 => ?_)
          · skip
            refine z_iconst (0) dX12_findBest_56 rfl ?_
            refine z_iadd dX12_findBest_57 ?_
            refine z_put dX12_findBest_58 tf_12_422 (rk_s k47) rfl (Or.inl rfl) (fun h55 e56 => ?_)
            have f57 := frm_1 e56
            have k58 := rk_q (frm_s f57) k47
            have H59 := rB_c f57 (fun a k q => by omega) H48
            have H60 := rM_c f57 (fun a k q => by omega) H49
            have H61 := rRw_c f57 (fun a k q => by omega) H50
            have FR62 := frm_t FR51 (frm_m (S' := (fun a k => (a = m ∧ (k = 45 ∨ k = 46)) ∨ (m + 16 ≤ a ∧ a ≤ m + 18))) f57 (fun a k q => by omega))
            have z63 : rI h55 m 46 = ((stC g 3 k) + 0) := (rI_eq e56 ⟨by omega, by omega⟩)
            have B3b : rI h15 m 45 = if v = -1 then -1000000 else wtK g 3 v := B3
            refine e_iload_n dX12_findBest_61 rfl ?_
            refine e_aload_n dX12_findBest_62 rfl ?_
            refine z_get (rI h15 m 45) dX12_findBest_63 tf_12_419 (rk_s k58) (Or.inl rfl) ((frm_r f57 (by omega)).trans ((frm_r f46 (by omega)).trans (frm_r f38 (by omega)))) ?_
            have y64 := rI_i h15 m 45
            refine z_icmp_le 104 dX12_findBest_66 rfl ⟨by omega, by omega⟩ ⟨by omega, by omega⟩ (fun c65 => ?_) (fun c65 => ?_)
            · skip
              skip
              refine z_iinc (L' := [_, _, _, _, _]) dX12_findBest_104 rfl rfl ?_
              refine e_goto 14 dX12_findBest_107 rfl ?_
              exact mEv_wk (by exact ⟨Or.inr rfl, Or.inr rfl, Or.inr rfl, Or.inl rfl, Or.inl rfl, trivial⟩) (ih15 _ (by omega) (k + 1) v h55 rfl k58 H59 H60 FR62 (by omega) (by
                        by_cases z : -1000000 < wtK g 3 k
                        · exact fmax_keep B2 (fun q => by rw [if_pos q] at B3b; omega) (by have q : v ≠ -1 := (fun q => by rw [if_pos q] at B3b; omega); rw [if_neg q] at B3b; omega)
                        · exact fmax_no B2 (vn (by omega))) ((((frm_r f57 (by omega)).trans ((frm_r f46 (by omega)).trans (frm_r f38 (by omega))))).trans B3) (fun z d a c => (((frm_r f57 (by omega)).trans ((frm_r f46 (by omega)).trans (frm_r f38 (by omega))))).trans (B4 z d a c)) (by first | (rw [(stC_s (by omega)).1 (va (by omega))]; exact z63) | (rw [(stC_s (by omega)).2 (vn (by omega))]; exact z63)))
            · skip
              refine e_aload_n dX12_findBest_69 rfl ?_
              refine e_iload_n dX12_findBest_70 rfl ?_
              refine z_put dX12_findBest_71 tf_12_419 (rk_s k58) rfl (Or.inl rfl) (fun h66 e67 => ?_)
              have f68 := frm_1 e67
              have k69 := rk_q (frm_s f68) k58
              have H70 := rB_c f68 (fun a k q => by omega) H59
              have H71 := rM_c f68 (fun a k q => by omega) H60
              have H72 := rRw_c f68 (fun a k q => by omega) H61
              have FR73 := frm_t FR62 (frm_m (S' := (fun a k => (a = m ∧ (k = 45 ∨ k = 46)) ∨ (m + 16 ≤ a ∧ a ≤ m + 18))) f68 (fun a k q => by omega))
              have z74 : rI h66 m 45 = (wtB g 3 (dgZ k)) := (rI_eq e67 ⟨by omega, by omega⟩)
              have z75 : rI h66 m 46 = _ := ((frm_r f68 (by omega))).trans z63
              refine z_iconst (0) dX12_findBest_74 rfl ?_
              refine e_istore (L' := [_, _, _, _, _]) dX12_findBest_75 (Nat.le_of_ble_eq_true rfl) rfl ?_
              have lp76 : ∀ (n76 : Nat) (x : Int) (h76 : mH), (6 - x).toNat = n76 → (rk h76 m) → (rB h76 m g) → (rM h76 m g) → (rRw h76 m g (dgZ k)) → (frm (fun a k => (a = m ∧ (k = 45 ∨ k = 46)) ∨ (m + 16 ≤ a ∧ a ≤ m + 18)) h h76) → (0 ≤ x ∧ x ≤ 6) → (∀ d : Int, 0 ≤ d → d < x → rI h76 (m + 17) d = dgZ k d) → (∀ (a : Nat) (z : Int), a ≠ m + 17 → rI h76 a z = rI h66 a z) → mEv TB0 ad M_X12_findBest (dd + 7) (0, 0) (mCal TB0 ad (dd + 6)) (fun v h' z => z.1 = 0 ∧ Q v h') 77 [some (.ref m), some (.int (zI 3)), some (.int (zI k)), some (.int (zI (wtB g 3 (dgZ k)))), some (.int (zI x))] [] h76 (0, 0) := by
                intro n76
                induction n76 using Nat.strongRecOn with
                | ind n76 ih76 =>
                intro x h76 hn76 k77 H78 H79 H80 FR81 X1 BC CP
                refine e_iload dX12_findBest_77 rfl ?_
                refine z_bipush (6) dX12_findBest_79 rfl ?_
                refine z_icmp_ge 104 dX12_findBest_81 rfl ⟨by omega, by omega⟩ ⟨by omega, by omega⟩ (fun c82 => ?_) (fun c82 => ?_)
                · skip
                  have z83 : rI h76 m 45 = _ := (CP m 45 (by omega)).trans z74
                  have z84 : rI h76 m 46 = _ := (CP m 46 (by omega)).trans z75
                  refine z_iinc (L' := [_, _, _, _, _]) dX12_findBest_104 rfl rfl ?_
                  refine e_goto 14 dX12_findBest_107 rfl ?_
                  exact mEv_wk (by exact ⟨Or.inr rfl, Or.inr rfl, Or.inr rfl, Or.inl rfl, Or.inl rfl, trivial⟩) (ih15 _ (by omega) (k + 1) k h76 rfl k77 H78 H79 FR81 (by omega) (fmax_new B2 (by omega) (va (by omega)) (by by_cases q : v = -1; exact Or.inl q; rw [if_neg q] at B3b; exact Or.inr (by omega))) (by rw [if_neg (by omega)]; exact z83) (fun _ d a c => (BC d a (by omega))) (by first | (rw [(stC_s (by omega)).1 (va (by omega))]; exact z84) | (rw [(stC_s (by omega)).2 (vn (by omega))]; exact z84)))
                · skip
                  refine e_aload_n dX12_findBest_84 rfl ?_
                  refine e_get (.ref (m + 17)) dX12_findBest_85 tf_12_59 (rk_s k77) (congrArg va_rf (rk_r17 k77)) ?_
                  refine e_iload dX12_findBest_88 rfl ?_
                  refine e_aload_n dX12_findBest_90 rfl ?_
                  refine e_get (.ref (m + 16)) dX12_findBest_91 tf_12_56 (rk_s k77) (congrArg va_rf (rk_r16 k77)) ?_
                  refine e_iload dX12_findBest_94 rfl ?_
                  refine z_ild ((dgZ k) x) dX12_findBest_96 (rk_a16 k77) (by decide) (by omega) (by omega) (H80.2 x (by omega) (by omega)) ?_
                  have y85 := isRw_f H80.1.1 (show 0 ≤ x by omega) (by omega)
                  have y86 := H80.1.2 x (by omega) (by omega)
                  refine z_ist dX12_findBest_97 (rk_a17 k77) (by decide) (by omega) (by omega) (fun h87 e88 => ?_)
                  have f89 := frm_1 e88
                  have k90 := rk_q (frm_s f89) k77
                  have H91 := rB_c f89 (fun a k q => by omega) H78
                  have H92 := rM_c f89 (fun a k q => by omega) H79
                  have H93 := rRw_c f89 (fun a k q => by omega) H80
                  have FR94 := frm_t FR81 (frm_m (S' := (fun a k => (a = m ∧ (k = 45 ∨ k = 46)) ∨ (m + 16 ≤ a ∧ a ≤ m + 18))) f89 (fun a k q => by omega))
                  refine z_iinc (L' := [_, _, _, _, _]) dX12_findBest_98 rfl rfl ?_
                  refine e_goto 77 dX12_findBest_101 rfl ?_
                  exact ih76 _ (by omega) (x + 1) h87 rfl k90 H91 H92 H93 FR94 (by omega) (fun d a c => by
                            by_cases q : d = x
                            · rw [q]; exact (rI_eq e88 ⟨by omega, by omega⟩)
                            · exact ((frm_r f89 (by omega))).trans (BC d a (by omega))) (fun a z n => ((frm_r f89 (by omega))).trans (CP a z n))
              exact lp76 _ 0 h66 rfl k69 H70 H71 H72 FR73 (by omega) (fun d a c => by omega) (fun a z n => rfl)
          · skip
            refine z_iconst (1) dX12_findBest_52 rfl ?_
            refine e_goto 57 dX12_findBest_53 rfl ?_
            refine z_iadd dX12_findBest_57 ?_
            refine z_put dX12_findBest_58 tf_12_422 (rk_s k47) rfl (Or.inl rfl) (fun h95 e96 => ?_)
            have f97 := frm_1 e96
            have k98 := rk_q (frm_s f97) k47
            have H99 := rB_c f97 (fun a k q => by omega) H48
            have H100 := rM_c f97 (fun a k q => by omega) H49
            have H101 := rRw_c f97 (fun a k q => by omega) H50
            have FR102 := frm_t FR51 (frm_m (S' := (fun a k => (a = m ∧ (k = 45 ∨ k = 46)) ∨ (m + 16 ≤ a ∧ a ≤ m + 18))) f97 (fun a k q => by omega))
            have z103 : rI h95 m 46 = ((stC g 3 k) + 1) := (rI_eq e96 ⟨by omega, by omega⟩)
            have B3b : rI h15 m 45 = if v = -1 then -1000000 else wtK g 3 v := B3
            refine e_iload_n dX12_findBest_61 rfl ?_
            refine e_aload_n dX12_findBest_62 rfl ?_
            refine z_get (rI h15 m 45) dX12_findBest_63 tf_12_419 (rk_s k98) (Or.inl rfl) ((frm_r f97 (by omega)).trans ((frm_r f46 (by omega)).trans (frm_r f38 (by omega)))) ?_
            have y104 := rI_i h15 m 45
            refine z_icmp_le 104 dX12_findBest_66 rfl ⟨by omega, by omega⟩ ⟨by omega, by omega⟩ (fun c105 => ?_) (fun c105 => ?_)
            · skip
              skip
              refine z_iinc (L' := [_, _, _, _, _]) dX12_findBest_104 rfl rfl ?_
              refine e_goto 14 dX12_findBest_107 rfl ?_
              exact mEv_wk (by exact ⟨Or.inr rfl, Or.inr rfl, Or.inr rfl, Or.inl rfl, Or.inl rfl, trivial⟩) (ih15 _ (by omega) (k + 1) v h95 rfl k98 H99 H100 FR102 (by omega) (by
                        by_cases z : -1000000 < wtK g 3 k
                        · exact fmax_keep B2 (fun q => by rw [if_pos q] at B3b; omega) (by have q : v ≠ -1 := (fun q => by rw [if_pos q] at B3b; omega); rw [if_neg q] at B3b; omega)
                        · exact fmax_no B2 (vn (by omega))) ((((frm_r f97 (by omega)).trans ((frm_r f46 (by omega)).trans (frm_r f38 (by omega))))).trans B3) (fun z d a c => (((frm_r f97 (by omega)).trans ((frm_r f46 (by omega)).trans (frm_r f38 (by omega))))).trans (B4 z d a c)) (by first | (rw [(stC_s (by omega)).1 (va (by omega))]; exact z103) | (rw [(stC_s (by omega)).2 (vn (by omega))]; exact z103)))
            · skip
              refine e_aload_n dX12_findBest_69 rfl ?_
              refine e_iload_n dX12_findBest_70 rfl ?_
              refine z_put dX12_findBest_71 tf_12_419 (rk_s k98) rfl (Or.inl rfl) (fun h106 e107 => ?_)
              have f108 := frm_1 e107
              have k109 := rk_q (frm_s f108) k98
              have H110 := rB_c f108 (fun a k q => by omega) H99
              have H111 := rM_c f108 (fun a k q => by omega) H100
              have H112 := rRw_c f108 (fun a k q => by omega) H101
              have FR113 := frm_t FR102 (frm_m (S' := (fun a k => (a = m ∧ (k = 45 ∨ k = 46)) ∨ (m + 16 ≤ a ∧ a ≤ m + 18))) f108 (fun a k q => by omega))
              have z114 : rI h106 m 45 = (wtB g 3 (dgZ k)) := (rI_eq e107 ⟨by omega, by omega⟩)
              have z115 : rI h106 m 46 = _ := ((frm_r f108 (by omega))).trans z103
              refine z_iconst (0) dX12_findBest_74 rfl ?_
              refine e_istore (L' := [_, _, _, _, _]) dX12_findBest_75 (Nat.le_of_ble_eq_true rfl) rfl ?_
              have lp116 : ∀ (n116 : Nat) (x : Int) (h116 : mH), (6 - x).toNat = n116 → (rk h116 m) → (rB h116 m g) → (rM h116 m g) → (rRw h116 m g (dgZ k)) → (frm (fun a k => (a = m ∧ (k = 45 ∨ k = 46)) ∨ (m + 16 ≤ a ∧ a ≤ m + 18)) h h116) → (0 ≤ x ∧ x ≤ 6) → (∀ d : Int, 0 ≤ d → d < x → rI h116 (m + 17) d = dgZ k d) → (∀ (a : Nat) (z : Int), a ≠ m + 17 → rI h116 a z = rI h106 a z) → mEv TB0 ad M_X12_findBest (dd + 7) (0, 0) (mCal TB0 ad (dd + 6)) (fun v h' z => z.1 = 0 ∧ Q v h') 77 [some (.ref m), some (.int (zI 3)), some (.int (zI k)), some (.int (zI (wtB g 3 (dgZ k)))), some (.int (zI x))] [] h116 (0, 0) := by
                intro n116
                induction n116 using Nat.strongRecOn with
                | ind n116 ih116 =>
                intro x h116 hn116 k117 H118 H119 H120 FR121 X1 BC CP
                refine e_iload dX12_findBest_77 rfl ?_
                refine z_bipush (6) dX12_findBest_79 rfl ?_
                refine z_icmp_ge 104 dX12_findBest_81 rfl ⟨by omega, by omega⟩ ⟨by omega, by omega⟩ (fun c122 => ?_) (fun c122 => ?_)
                · skip
                  have z123 : rI h116 m 45 = _ := (CP m 45 (by omega)).trans z114
                  have z124 : rI h116 m 46 = _ := (CP m 46 (by omega)).trans z115
                  refine z_iinc (L' := [_, _, _, _, _]) dX12_findBest_104 rfl rfl ?_
                  refine e_goto 14 dX12_findBest_107 rfl ?_
                  exact mEv_wk (by exact ⟨Or.inr rfl, Or.inr rfl, Or.inr rfl, Or.inl rfl, Or.inl rfl, trivial⟩) (ih15 _ (by omega) (k + 1) k h116 rfl k117 H118 H119 FR121 (by omega) (fmax_new B2 (by omega) (va (by omega)) (by by_cases q : v = -1; exact Or.inl q; rw [if_neg q] at B3b; exact Or.inr (by omega))) (by rw [if_neg (by omega)]; exact z123) (fun _ d a c => (BC d a (by omega))) (by first | (rw [(stC_s (by omega)).1 (va (by omega))]; exact z124) | (rw [(stC_s (by omega)).2 (vn (by omega))]; exact z124)))
                · skip
                  refine e_aload_n dX12_findBest_84 rfl ?_
                  refine e_get (.ref (m + 17)) dX12_findBest_85 tf_12_59 (rk_s k117) (congrArg va_rf (rk_r17 k117)) ?_
                  refine e_iload dX12_findBest_88 rfl ?_
                  refine e_aload_n dX12_findBest_90 rfl ?_
                  refine e_get (.ref (m + 16)) dX12_findBest_91 tf_12_56 (rk_s k117) (congrArg va_rf (rk_r16 k117)) ?_
                  refine e_iload dX12_findBest_94 rfl ?_
                  refine z_ild ((dgZ k) x) dX12_findBest_96 (rk_a16 k117) (by decide) (by omega) (by omega) (H120.2 x (by omega) (by omega)) ?_
                  have y125 := isRw_f H120.1.1 (show 0 ≤ x by omega) (by omega)
                  have y126 := H120.1.2 x (by omega) (by omega)
                  refine z_ist dX12_findBest_97 (rk_a17 k117) (by decide) (by omega) (by omega) (fun h127 e128 => ?_)
                  have f129 := frm_1 e128
                  have k130 := rk_q (frm_s f129) k117
                  have H131 := rB_c f129 (fun a k q => by omega) H118
                  have H132 := rM_c f129 (fun a k q => by omega) H119
                  have H133 := rRw_c f129 (fun a k q => by omega) H120
                  have FR134 := frm_t FR121 (frm_m (S' := (fun a k => (a = m ∧ (k = 45 ∨ k = 46)) ∨ (m + 16 ≤ a ∧ a ≤ m + 18))) f129 (fun a k q => by omega))
                  refine z_iinc (L' := [_, _, _, _, _]) dX12_findBest_98 rfl rfl ?_
                  refine e_goto 77 dX12_findBest_101 rfl ?_
                  exact ih116 _ (by omega) (x + 1) h127 rfl k130 H131 H132 H133 FR134 (by omega) (fun d a c => by
                            by_cases q : d = x
                            · rw [q]; exact (rI_eq e128 ⟨by omega, by omega⟩)
                            · exact ((frm_r f129 (by omega))).trans (BC d a (by omega))) (fun a z n => ((frm_r f129 (by omega))).trans (CP a z n))
              exact lp116 _ 0 h106 rfl k109 H110 H111 H112 FR113 (by omega) (fun d a c => by omega) (fun a z n => rfl)
  exact lp15 _ 0 (-1) h8 rfl k11 H12 H13 FR14 (by omega) (fmax_0 _ _ (by omega)) (by rw [if_pos rfl]; exact (show rI h8 m 45 = (-1000000) from ((frm_r f10 (by omega)).trans (rI_eq e2 ⟨by omega, by omega⟩)))) (fun z => absurd rfl z) ((show rI h8 m 46 = 0 from (rI_eq e9 ⟨by omega, by omega⟩)).trans (by have := stC_b g 3 (k := 0) (by omega); omega))
set_option maxHeartbeats 6000000 in
theorem zp_X12_findBest_4 {ad : mA} {dd : Nat} {h : mH} {Q : mQ} {m : Nat} {g : Int → Int} (hk : rk h m) (HB : rB h m g) (HM : rM h m g)    (kq : ∀ h1, frm (fun a k => (a = m ∧ (k = 45 ∨ k = 46)) ∨ (m + 16 ≤ a ∧ a ≤ m + 18)) h h1 → (bsE h1 m g 4) → Q none h1) : mCal TB0 ad (dd + 7) M_X12_findBest [.ref m, .int (zI 4)] h 0 0 Q := by
  refine ⟨Nat.le_of_ble_eq_true rfl, ?_⟩
  show mEv TB0 ad M_X12_findBest (dd + 7) (0, 0) (mCal TB0 ad (dd + 6)) (fun v h' z => z.1 = 0 ∧ Q v h') 0 [some (.ref m), some (.int (zI 4)), none, none, none] [] h (0, 0)
  have FR0 : frm (fun a k => (a = m ∧ (k = 45 ∨ k = 46)) ∨ (m + 16 ≤ a ∧ a ≤ m + 18)) h h := frm_0 h
  have w1 := rB_n HB
  have w2 := rB_nd HB
  have w3 := rB_nu HB
  refine e_aload_n dX12_findBest_0 rfl ?_
  refine z_ldc_w (-1000000) dX12_findBest_1 tl_12_406 rfl ?_
  refine z_put dX12_findBest_4 tf_12_419 (rk_s hk) rfl (Or.inl rfl) (fun h1 e2 => ?_)
  have f3 := frm_1 e2
  have k4 := rk_q (frm_s f3) hk
  have H5 := rB_c f3 (fun a k q => by omega) HB
  have H6 := rM_c f3 (fun a k q => by omega) HM
  have FR7 := frm_t FR0 (frm_m (S' := (fun a k => (a = m ∧ (k = 45 ∨ k = 46)) ∨ (m + 16 ≤ a ∧ a ≤ m + 18))) f3 (fun a k q => by omega))
  refine e_aload_n dX12_findBest_7 rfl ?_
  refine z_iconst (0) dX12_findBest_8 rfl ?_
  refine z_put dX12_findBest_9 tf_12_422 (rk_s k4) rfl (Or.inl rfl) (fun h8 e9 => ?_)
  have f10 := frm_1 e9
  have k11 := rk_q (frm_s f10) k4
  have H12 := rB_c f10 (fun a k q => by omega) H5
  have H13 := rM_c f10 (fun a k q => by omega) H6
  have FR14 := frm_t FR7 (frm_m (S' := (fun a k => (a = m ∧ (k = 45 ∨ k = 46)) ∨ (m + 16 ≤ a ∧ a ≤ m + 18))) f10 (fun a k q => by omega))
  refine z_iconst (0) dX12_findBest_12 rfl ?_
  refine e_istore_n (L' := [_, _, _, _, _]) dX12_findBest_13 (Nat.le_of_ble_eq_true rfl) rfl ?_
  have lp15 : ∀ (n15 : Nat) (k v : Int) (h15 : mH), (117649 - k).toNat = n15 → (rk h15 m) → (rB h15 m g) → (rM h15 m g) → (frm (fun a k => (a = m ∧ (k = 45 ∨ k = 46)) ∨ (m + 16 ≤ a ∧ a ≤ m + 18)) h h15) → (0 ≤ k ∧ k ≤ 117649) → (fmax (vaB g 4) (wtK g 4) k v) → (rI h15 m 45 = if v = -1 then -1000000 else wtK g 4 v) → (v ≠ -1 → ∀ d : Int, 0 ≤ d → d < 6 → rI h15 (m + 17) d = dgZ v d) → (rI h15 m 46 = stC g 4 k) → mEv TB0 ad M_X12_findBest (dd + 7) (0, 0) (mCal TB0 ad (dd + 6)) (fun v h' z => z.1 = 0 ∧ Q v h') 14 [some (.ref m), some (.int (zI 4)), some (.int (zI k)), none, none] [] h15 (0, 0) := by
    intro n15
    induction n15 using Nat.strongRecOn with
    | ind n15 ih15 =>
    intro k v h15 hn15 k16 H17 H18 FR19 B1 B2 B3 B4 B5
    refine e_iload_n dX12_findBest_14 rfl ?_
    have cb := stC_b g 4 (k := k) (by omega)
    have fb := fmax_b B2
    have wb := wtB_b (show (0 ≤ nd g ∧ nd g ≤ 6) ∧ (0 ≤ nu g ∧ nu g ≤ 6) by omega) 4 (dgZ v)
    have wb : -1000000 ≤ wtK g 4 v ∧ wtK g 4 v ≤ 1000000 := wb
    refine z_ldc_w (117649) dX12_findBest_15 tl_12_425 rfl ?_
    refine z_icmp_ge 110 dX12_findBest_18 rfl ⟨by omega, by omega⟩ ⟨by omega, by omega⟩ (fun c20 => ?_) (fun c20 => ?_)
    · skip
      have vx : v ≠ -1 := fun e => by
        obtain ⟨q, q1, q2⟩ := vaB_ex (g := g) (by omega) 4
        rcases B2 with z | z
        · exact z.2 q q1.1 (by omega) q2
        · omega
      refine z_iconst (0) dX12_findBest_110 rfl ?_
      refine e_istore_n (L' := [_, _, _, _, _]) dX12_findBest_111 (Nat.le_of_ble_eq_true rfl) rfl ?_
      have lp21 : ∀ (n21 : Nat) (y : Int) (h21 : mH), (6 - y).toNat = n21 → (rk h21 m) → (rB h21 m g) → (rM h21 m g) → (frm (fun a k => (a = m ∧ (k = 45 ∨ k = 46)) ∨ (m + 16 ≤ a ∧ a ≤ m + 18)) h h21) → (0 ≤ y ∧ y ≤ 6) → (∀ d : Int, 0 ≤ d → d < y → rI h21 (m + 16) d = dgZ v d) → (∀ d : Int, 0 ≤ d → d < 6 → rI h21 (m + 17) d = dgZ v d) → (rI h21 m 45 = wtK g 4 v ∧ rI h21 m 46 = stC g 4 117649) → mEv TB0 ad M_X12_findBest (dd + 7) (0, 0) (mCal TB0 ad (dd + 6)) (fun v h' z => z.1 = 0 ∧ Q v h') 112 [some (.ref m), some (.int (zI 4)), some (.int (zI y)), none, none] [] h21 (0, 0) := by
        intro n21
        induction n21 using Nat.strongRecOn with
        | ind n21 ih21 =>
        intro y h21 hn21 k22 H23 H24 FR25 Y1 Y2 Y3 Y4
        refine e_iload_n dX12_findBest_112 rfl ?_
        refine z_bipush (6) dX12_findBest_113 rfl ?_
        refine z_icmp_ge 136 dX12_findBest_115 rfl ⟨by omega, by omega⟩ ⟨by omega, by omega⟩ (fun c26 => ?_) (fun c26 => ?_)
        · skip
          refine e_vret dX12_findBest_136 rfl ⟨rfl, ?_⟩
          have ff : fmax (vaB g 4) (wtK g 4) 117649 v := by rw [show (117649 : Int) = k by omega]; exact B2
          have vr := (fmax_p ff vx).1
          exact kq _ FR25 ⟨v, ⟨by omega, ff⟩, ⟨⟨vr, isRw_b (by omega) vr⟩, fun d a c => Y2 d a (by omega)⟩, Y4⟩
        · skip
          refine e_aload_n dX12_findBest_118 rfl ?_
          refine e_get (.ref (m + 16)) dX12_findBest_119 tf_12_56 (rk_s k22) (congrArg va_rf (rk_r16 k22)) ?_
          refine e_iload_n dX12_findBest_122 rfl ?_
          refine e_aload_n dX12_findBest_123 rfl ?_
          refine e_get (.ref (m + 17)) dX12_findBest_124 tf_12_59 (rk_s k22) (congrArg va_rf (rk_r17 k22)) ?_
          refine e_iload_n dX12_findBest_127 rfl ?_
          refine z_ild (dgZ v y) dX12_findBest_128 (rk_a17 k22) (by decide) (by omega) (by omega) (Y3 y (by omega) (by omega)) ?_
          have y27 := dg_b v y
          refine z_ist dX12_findBest_129 (rk_a16 k22) (by decide) (by omega) (by omega) (fun h28 e29 => ?_)
          have f30 := frm_1 e29
          have k31 := rk_q (frm_s f30) k22
          have H32 := rB_c f30 (fun a k q => by omega) H23
          have H33 := rM_c f30 (fun a k q => by omega) H24
          have FR34 := frm_t FR25 (frm_m (S' := (fun a k => (a = m ∧ (k = 45 ∨ k = 46)) ∨ (m + 16 ≤ a ∧ a ≤ m + 18))) f30 (fun a k q => by omega))
          refine z_iinc (L' := [_, _, _, _, _]) dX12_findBest_130 rfl rfl ?_
          refine e_goto 112 dX12_findBest_133 rfl ?_
          exact ih21 _ (by omega) (y + 1) h28 rfl k31 H32 H33 FR34 (by omega) (fun d a c => by
                    by_cases q : d = y
                    · rw [q]; exact (rI_eq e29 ⟨by omega, by omega⟩)
                    · exact ((frm_r f30 (by omega))).trans (Y2 d a (by omega))) (fun d a c => ((frm_r f30 (by omega))).trans (Y3 d a c)) (⟨((frm_r f30 (by omega))).trans Y4.1, ((frm_r f30 (by omega))).trans Y4.2⟩)
      exact lp21 _ 0 h15 rfl k16 H17 H18 FR19 (by omega) (fun d a c => by omega) (B4 vx) (⟨by rw [if_neg vx] at B3; exact B3, by rw [B5, show k = 117649 by omega]⟩)
    · skip
      refine e_aload_n dX12_findBest_21 rfl ?_
      refine e_iload_n dX12_findBest_22 rfl ?_
      refine e_callV [.int _] dX12_findBest_23 tm_12_426 rfl (Nat.le_of_ble_eq_true rfl) (rk_s k16) (Nat.le_of_ble_eq_true rfl) (Nat.le_refl _) (Nat.le_refl _) rfl (zp_X12_isRow k16 H17 k ⟨by omega, by omega⟩ (by omega) (fun v35 p36 h37 f38 p39 => ?_))
      have k40 := rk_q (frm_s f38) k16
      have H41 := rB_c f38 (fun a k q => by omega) H17
      have H42 := rM_c f38 (fun a k q => by omega) H18
      have FR43 := frm_t FR19 (frm_m (S' := (fun a k => (a = m ∧ (k = 45 ∨ k = 46)) ∨ (m + 16 ≤ a ∧ a ≤ m + 18))) f38 (fun a k q => by omega))
      skip
      have ir : (v35 = 1 ∧ isRw g (dgZ k)) ∨ (v35 = 0 ∧ ¬ isRw g (dgZ k)) := by assumption
      have irb : v35 = 0 ∨ v35 = 1 := by rcases ir with q | q; exact Or.inr q.1; exact Or.inl q.1
      refine z_if_eq 104 dX12_findBest_26 rfl ⟨by omega, by omega⟩ (fun c44 => ?_) (fun c44 => ?_)
      · skip
        skip
        skip
        refine z_iinc (L' := [_, _, _, _, _]) dX12_findBest_104 rfl rfl ?_
        refine e_goto 14 dX12_findBest_107 rfl ?_
        exact ih15 _ (by omega) (k + 1) v h37 rfl k40 H41 H42 FR43 (by omega) (fmax_no B2 (fun z => by rcases ir with q | q; omega; exact q.2 z.1)) (((frm_r f38 (by omega))).trans B3) (fun z d a c => ((frm_r f38 (by omega))).trans (B4 z d a c)) ((((frm_r f38 (by omega))).trans B5).trans (by rw [stC_o (by omega)]; omega))
      · skip
        have rw1 : isRw g (dgZ k) := by rcases ir with q | q; exact q.2; exact absurd q.1 (by omega)
        have RW := p39 (by omega)
        refine e_aload_n dX12_findBest_29 rfl ?_
        refine e_iload_n dX12_findBest_30 rfl ?_
        refine e_callV [.int _] dX12_findBest_31 tm_12_429 rfl (Nat.le_of_ble_eq_true rfl) (rk_s k40) (Nat.le_of_ble_eq_true rfl) (Nat.le_refl _) (Nat.le_refl _) rfl (zp_X12_worthBy_4 k40 H41 H42 RW (fun  h45 f46  => ?_))
        have k47 := rk_q (frm_s f46) k40
        have H48 := rB_c f46 (fun a k q => by omega) H41
        have H49 := rM_c f46 (fun a k q => by omega) H42
        have H50 := rRw_c f46 (fun a k q => by omega) RW
        have FR51 := frm_t FR43 (frm_m (S' := (fun a k => (a = m ∧ (k = 45 ∨ k = 46)) ∨ (m + 16 ≤ a ∧ a ≤ m + 18))) f46 (fun a k q => by omega))
        have y52 := wtB_b (show (0 ≤ nd g ∧ nd g ≤ 6) ∧ (0 ≤ nu g ∧ nu g ≤ 6) by omega) 4 (dgZ k)
        have wk : (wtB g 4 (dgZ k)) = wtK g 4 k := rfl
        have va : -1000000 < wtK g 4 k → vaB g 4 k := fun z => ⟨rw1, z⟩
        have vn : wtK g 4 k ≤ -1000000 → ¬ vaB g 4 k := fun z w => by have w2 : -1000000 < wtK g 4 k := w.2; omega
        refine e_istore_n (L' := [_, _, _, _, _]) dX12_findBest_34 (Nat.le_of_ble_eq_true rfl) rfl ?_
        refine e_aload_n dX12_findBest_35 rfl ?_
        refine e_dup dX12_findBest_36 rfl ?_
        refine z_get (stC g 4 k) dX12_findBest_37 tf_12_422 (rk_s k47) (Or.inl rfl) ((((frm_r f46 (by omega)).trans (frm_r f38 (by omega)))).trans B5) ?_
        refine e_iload_n dX12_findBest_40 rfl ?_
        refine z_iconst (3) dX12_findBest_41 rfl ?_
        refine z_icmp_ne 56 dX12_findBest_42 rfl ⟨by omega, by omega⟩ ⟨by omega, by omega⟩ (fun c53 => ?_) (fun c53 => ?_)
        · skip
          refine z_iconst (0) dX12_findBest_56 rfl ?_
          refine z_iadd dX12_findBest_57 ?_
          refine z_put dX12_findBest_58 tf_12_422 (rk_s k47) rfl (Or.inl rfl) (fun h54 e55 => ?_)
          have f56 := frm_1 e55
          have k57 := rk_q (frm_s f56) k47
          have H58 := rB_c f56 (fun a k q => by omega) H48
          have H59 := rM_c f56 (fun a k q => by omega) H49
          have H60 := rRw_c f56 (fun a k q => by omega) H50
          have FR61 := frm_t FR51 (frm_m (S' := (fun a k => (a = m ∧ (k = 45 ∨ k = 46)) ∨ (m + 16 ≤ a ∧ a ≤ m + 18))) f56 (fun a k q => by omega))
          have z62 : rI h54 m 46 = ((stC g 4 k) + 0) := (rI_eq e55 ⟨by omega, by omega⟩)
          have B3b : rI h15 m 45 = if v = -1 then -1000000 else wtK g 4 v := B3
          refine e_iload_n dX12_findBest_61 rfl ?_
          refine e_aload_n dX12_findBest_62 rfl ?_
          refine z_get (rI h15 m 45) dX12_findBest_63 tf_12_419 (rk_s k57) (Or.inl rfl) ((frm_r f56 (by omega)).trans ((frm_r f46 (by omega)).trans (frm_r f38 (by omega)))) ?_
          have y63 := rI_i h15 m 45
          refine z_icmp_le 104 dX12_findBest_66 rfl ⟨by omega, by omega⟩ ⟨by omega, by omega⟩ (fun c64 => ?_) (fun c64 => ?_)
          · skip
            skip
            refine z_iinc (L' := [_, _, _, _, _]) dX12_findBest_104 rfl rfl ?_
            refine e_goto 14 dX12_findBest_107 rfl ?_
            exact mEv_wk (by exact ⟨Or.inr rfl, Or.inr rfl, Or.inr rfl, Or.inl rfl, Or.inl rfl, trivial⟩) (ih15 _ (by omega) (k + 1) v h54 rfl k57 H58 H59 FR61 (by omega) (by
                      by_cases z : -1000000 < wtK g 4 k
                      · exact fmax_keep B2 (fun q => by rw [if_pos q] at B3b; omega) (by have q : v ≠ -1 := (fun q => by rw [if_pos q] at B3b; omega); rw [if_neg q] at B3b; omega)
                      · exact fmax_no B2 (vn (by omega))) ((((frm_r f56 (by omega)).trans ((frm_r f46 (by omega)).trans (frm_r f38 (by omega))))).trans B3) (fun z d a c => (((frm_r f56 (by omega)).trans ((frm_r f46 (by omega)).trans (frm_r f38 (by omega))))).trans (B4 z d a c)) (by rw [stC_o (by omega)]; exact z62))
          · skip
            refine e_aload_n dX12_findBest_69 rfl ?_
            refine e_iload_n dX12_findBest_70 rfl ?_
            refine z_put dX12_findBest_71 tf_12_419 (rk_s k57) rfl (Or.inl rfl) (fun h65 e66 => ?_)
            have f67 := frm_1 e66
            have k68 := rk_q (frm_s f67) k57
            have H69 := rB_c f67 (fun a k q => by omega) H58
            have H70 := rM_c f67 (fun a k q => by omega) H59
            have H71 := rRw_c f67 (fun a k q => by omega) H60
            have FR72 := frm_t FR61 (frm_m (S' := (fun a k => (a = m ∧ (k = 45 ∨ k = 46)) ∨ (m + 16 ≤ a ∧ a ≤ m + 18))) f67 (fun a k q => by omega))
            have z73 : rI h65 m 45 = (wtB g 4 (dgZ k)) := (rI_eq e66 ⟨by omega, by omega⟩)
            have z74 : rI h65 m 46 = _ := ((frm_r f67 (by omega))).trans z62
            refine z_iconst (0) dX12_findBest_74 rfl ?_
            refine e_istore (L' := [_, _, _, _, _]) dX12_findBest_75 (Nat.le_of_ble_eq_true rfl) rfl ?_
            have lp75 : ∀ (n75 : Nat) (x : Int) (h75 : mH), (6 - x).toNat = n75 → (rk h75 m) → (rB h75 m g) → (rM h75 m g) → (rRw h75 m g (dgZ k)) → (frm (fun a k => (a = m ∧ (k = 45 ∨ k = 46)) ∨ (m + 16 ≤ a ∧ a ≤ m + 18)) h h75) → (0 ≤ x ∧ x ≤ 6) → (∀ d : Int, 0 ≤ d → d < x → rI h75 (m + 17) d = dgZ k d) → (∀ (a : Nat) (z : Int), a ≠ m + 17 → rI h75 a z = rI h65 a z) → mEv TB0 ad M_X12_findBest (dd + 7) (0, 0) (mCal TB0 ad (dd + 6)) (fun v h' z => z.1 = 0 ∧ Q v h') 77 [some (.ref m), some (.int (zI 4)), some (.int (zI k)), some (.int (zI (wtB g 4 (dgZ k)))), some (.int (zI x))] [] h75 (0, 0) := by
              intro n75
              induction n75 using Nat.strongRecOn with
              | ind n75 ih75 =>
              intro x h75 hn75 k76 H77 H78 H79 FR80 X1 BC CP
              refine e_iload dX12_findBest_77 rfl ?_
              refine z_bipush (6) dX12_findBest_79 rfl ?_
              refine z_icmp_ge 104 dX12_findBest_81 rfl ⟨by omega, by omega⟩ ⟨by omega, by omega⟩ (fun c81 => ?_) (fun c81 => ?_)
              · skip
                have z82 : rI h75 m 45 = _ := (CP m 45 (by omega)).trans z73
                have z83 : rI h75 m 46 = _ := (CP m 46 (by omega)).trans z74
                refine z_iinc (L' := [_, _, _, _, _]) dX12_findBest_104 rfl rfl ?_
                refine e_goto 14 dX12_findBest_107 rfl ?_
                exact mEv_wk (by exact ⟨Or.inr rfl, Or.inr rfl, Or.inr rfl, Or.inl rfl, Or.inl rfl, trivial⟩) (ih15 _ (by omega) (k + 1) k h75 rfl k76 H77 H78 FR80 (by omega) (fmax_new B2 (by omega) (va (by omega)) (by by_cases q : v = -1; exact Or.inl q; rw [if_neg q] at B3b; exact Or.inr (by omega))) (by rw [if_neg (by omega)]; exact z82) (fun _ d a c => (BC d a (by omega))) (by rw [stC_o (by omega)]; exact z83))
              · skip
                refine e_aload_n dX12_findBest_84 rfl ?_
                refine e_get (.ref (m + 17)) dX12_findBest_85 tf_12_59 (rk_s k76) (congrArg va_rf (rk_r17 k76)) ?_
                refine e_iload dX12_findBest_88 rfl ?_
                refine e_aload_n dX12_findBest_90 rfl ?_
                refine e_get (.ref (m + 16)) dX12_findBest_91 tf_12_56 (rk_s k76) (congrArg va_rf (rk_r16 k76)) ?_
                refine e_iload dX12_findBest_94 rfl ?_
                refine z_ild ((dgZ k) x) dX12_findBest_96 (rk_a16 k76) (by decide) (by omega) (by omega) (H79.2 x (by omega) (by omega)) ?_
                have y84 := isRw_f H79.1.1 (show 0 ≤ x by omega) (by omega)
                have y85 := H79.1.2 x (by omega) (by omega)
                refine z_ist dX12_findBest_97 (rk_a17 k76) (by decide) (by omega) (by omega) (fun h86 e87 => ?_)
                have f88 := frm_1 e87
                have k89 := rk_q (frm_s f88) k76
                have H90 := rB_c f88 (fun a k q => by omega) H77
                have H91 := rM_c f88 (fun a k q => by omega) H78
                have H92 := rRw_c f88 (fun a k q => by omega) H79
                have FR93 := frm_t FR80 (frm_m (S' := (fun a k => (a = m ∧ (k = 45 ∨ k = 46)) ∨ (m + 16 ≤ a ∧ a ≤ m + 18))) f88 (fun a k q => by omega))
                refine z_iinc (L' := [_, _, _, _, _]) dX12_findBest_98 rfl rfl ?_
                refine e_goto 77 dX12_findBest_101 rfl ?_
                exact ih75 _ (by omega) (x + 1) h86 rfl k89 H90 H91 H92 FR93 (by omega) (fun d a c => by
                          by_cases q : d = x
                          · rw [q]; exact (rI_eq e87 ⟨by omega, by omega⟩)
                          · exact ((frm_r f88 (by omega))).trans (BC d a (by omega))) (fun a z n => ((frm_r f88 (by omega))).trans (CP a z n))
            exact lp75 _ 0 h65 rfl k68 H69 H70 H71 FR72 (by omega) (fun d a c => by omega) (fun a z n => rfl)
        · exfalso; omega
  exact lp15 _ 0 (-1) h8 rfl k11 H12 H13 FR14 (by omega) (fmax_0 _ _ (by omega)) (by rw [if_pos rfl]; exact (show rI h8 m 45 = (-1000000) from ((frm_r f10 (by omega)).trans (rI_eq e2 ⟨by omega, by omega⟩)))) (fun z => absurd rfl z) ((show rI h8 m 46 = 0 from (rI_eq e9 ⟨by omega, by omega⟩)).trans (by have := stC_b g 4 (k := 0) (by omega); omega))
set_option maxHeartbeats 6000000 in
theorem zp_X12_findBest_5 {ad : mA} {dd : Nat} {h : mH} {Q : mQ} {m : Nat} {g : Int → Int} (hk : rk h m) (HB : rB h m g) (HM : rM h m g)    (kq : ∀ h1, frm (fun a k => (a = m ∧ (k = 45 ∨ k = 46)) ∨ (m + 16 ≤ a ∧ a ≤ m + 18)) h h1 → (bsE h1 m g 5) → Q none h1) : mCal TB0 ad (dd + 7) M_X12_findBest [.ref m, .int (zI 5)] h 0 0 Q := by
  refine ⟨Nat.le_of_ble_eq_true rfl, ?_⟩
  show mEv TB0 ad M_X12_findBest (dd + 7) (0, 0) (mCal TB0 ad (dd + 6)) (fun v h' z => z.1 = 0 ∧ Q v h') 0 [some (.ref m), some (.int (zI 5)), none, none, none] [] h (0, 0)
  have FR0 : frm (fun a k => (a = m ∧ (k = 45 ∨ k = 46)) ∨ (m + 16 ≤ a ∧ a ≤ m + 18)) h h := frm_0 h
  have w1 := rB_n HB
  have w2 := rB_nd HB
  have w3 := rB_nu HB
  refine e_aload_n dX12_findBest_0 rfl ?_
  refine z_ldc_w (-1000000) dX12_findBest_1 tl_12_406 rfl ?_
  refine z_put dX12_findBest_4 tf_12_419 (rk_s hk) rfl (Or.inl rfl) (fun h1 e2 => ?_)
  have f3 := frm_1 e2
  have k4 := rk_q (frm_s f3) hk
  have H5 := rB_c f3 (fun a k q => by omega) HB
  have H6 := rM_c f3 (fun a k q => by omega) HM
  have FR7 := frm_t FR0 (frm_m (S' := (fun a k => (a = m ∧ (k = 45 ∨ k = 46)) ∨ (m + 16 ≤ a ∧ a ≤ m + 18))) f3 (fun a k q => by omega))
  refine e_aload_n dX12_findBest_7 rfl ?_
  refine z_iconst (0) dX12_findBest_8 rfl ?_
  refine z_put dX12_findBest_9 tf_12_422 (rk_s k4) rfl (Or.inl rfl) (fun h8 e9 => ?_)
  have f10 := frm_1 e9
  have k11 := rk_q (frm_s f10) k4
  have H12 := rB_c f10 (fun a k q => by omega) H5
  have H13 := rM_c f10 (fun a k q => by omega) H6
  have FR14 := frm_t FR7 (frm_m (S' := (fun a k => (a = m ∧ (k = 45 ∨ k = 46)) ∨ (m + 16 ≤ a ∧ a ≤ m + 18))) f10 (fun a k q => by omega))
  refine z_iconst (0) dX12_findBest_12 rfl ?_
  refine e_istore_n (L' := [_, _, _, _, _]) dX12_findBest_13 (Nat.le_of_ble_eq_true rfl) rfl ?_
  have lp15 : ∀ (n15 : Nat) (k v : Int) (h15 : mH), (117649 - k).toNat = n15 → (rk h15 m) → (rB h15 m g) → (rM h15 m g) → (frm (fun a k => (a = m ∧ (k = 45 ∨ k = 46)) ∨ (m + 16 ≤ a ∧ a ≤ m + 18)) h h15) → (0 ≤ k ∧ k ≤ 117649) → (fmax (vaB g 5) (wtK g 5) k v) → (rI h15 m 45 = if v = -1 then -1000000 else wtK g 5 v) → (v ≠ -1 → ∀ d : Int, 0 ≤ d → d < 6 → rI h15 (m + 17) d = dgZ v d) → (rI h15 m 46 = stC g 5 k) → mEv TB0 ad M_X12_findBest (dd + 7) (0, 0) (mCal TB0 ad (dd + 6)) (fun v h' z => z.1 = 0 ∧ Q v h') 14 [some (.ref m), some (.int (zI 5)), some (.int (zI k)), none, none] [] h15 (0, 0) := by
    intro n15
    induction n15 using Nat.strongRecOn with
    | ind n15 ih15 =>
    intro k v h15 hn15 k16 H17 H18 FR19 B1 B2 B3 B4 B5
    refine e_iload_n dX12_findBest_14 rfl ?_
    have cb := stC_b g 5 (k := k) (by omega)
    have fb := fmax_b B2
    have wb := wtB_b (show (0 ≤ nd g ∧ nd g ≤ 6) ∧ (0 ≤ nu g ∧ nu g ≤ 6) by omega) 5 (dgZ v)
    have wb : -1000000 ≤ wtK g 5 v ∧ wtK g 5 v ≤ 1000000 := wb
    refine z_ldc_w (117649) dX12_findBest_15 tl_12_425 rfl ?_
    refine z_icmp_ge 110 dX12_findBest_18 rfl ⟨by omega, by omega⟩ ⟨by omega, by omega⟩ (fun c20 => ?_) (fun c20 => ?_)
    · skip
      have vx : v ≠ -1 := fun e => by
        obtain ⟨q, q1, q2⟩ := vaB_ex (g := g) (by omega) 5
        rcases B2 with z | z
        · exact z.2 q q1.1 (by omega) q2
        · omega
      refine z_iconst (0) dX12_findBest_110 rfl ?_
      refine e_istore_n (L' := [_, _, _, _, _]) dX12_findBest_111 (Nat.le_of_ble_eq_true rfl) rfl ?_
      have lp21 : ∀ (n21 : Nat) (y : Int) (h21 : mH), (6 - y).toNat = n21 → (rk h21 m) → (rB h21 m g) → (rM h21 m g) → (frm (fun a k => (a = m ∧ (k = 45 ∨ k = 46)) ∨ (m + 16 ≤ a ∧ a ≤ m + 18)) h h21) → (0 ≤ y ∧ y ≤ 6) → (∀ d : Int, 0 ≤ d → d < y → rI h21 (m + 16) d = dgZ v d) → (∀ d : Int, 0 ≤ d → d < 6 → rI h21 (m + 17) d = dgZ v d) → (rI h21 m 45 = wtK g 5 v ∧ rI h21 m 46 = stC g 5 117649) → mEv TB0 ad M_X12_findBest (dd + 7) (0, 0) (mCal TB0 ad (dd + 6)) (fun v h' z => z.1 = 0 ∧ Q v h') 112 [some (.ref m), some (.int (zI 5)), some (.int (zI y)), none, none] [] h21 (0, 0) := by
        intro n21
        induction n21 using Nat.strongRecOn with
        | ind n21 ih21 =>
        intro y h21 hn21 k22 H23 H24 FR25 Y1 Y2 Y3 Y4
        refine e_iload_n dX12_findBest_112 rfl ?_
        refine z_bipush (6) dX12_findBest_113 rfl ?_
        refine z_icmp_ge 136 dX12_findBest_115 rfl ⟨by omega, by omega⟩ ⟨by omega, by omega⟩ (fun c26 => ?_) (fun c26 => ?_)
        · skip
          refine e_vret dX12_findBest_136 rfl ⟨rfl, ?_⟩
          have ff : fmax (vaB g 5) (wtK g 5) 117649 v := by rw [show (117649 : Int) = k by omega]; exact B2
          have vr := (fmax_p ff vx).1
          exact kq _ FR25 ⟨v, ⟨by omega, ff⟩, ⟨⟨vr, isRw_b (by omega) vr⟩, fun d a c => Y2 d a (by omega)⟩, Y4⟩
        · skip
          refine e_aload_n dX12_findBest_118 rfl ?_
          refine e_get (.ref (m + 16)) dX12_findBest_119 tf_12_56 (rk_s k22) (congrArg va_rf (rk_r16 k22)) ?_
          refine e_iload_n dX12_findBest_122 rfl ?_
          refine e_aload_n dX12_findBest_123 rfl ?_
          refine e_get (.ref (m + 17)) dX12_findBest_124 tf_12_59 (rk_s k22) (congrArg va_rf (rk_r17 k22)) ?_
          refine e_iload_n dX12_findBest_127 rfl ?_
          refine z_ild (dgZ v y) dX12_findBest_128 (rk_a17 k22) (by decide) (by omega) (by omega) (Y3 y (by omega) (by omega)) ?_
          have y27 := dg_b v y
          refine z_ist dX12_findBest_129 (rk_a16 k22) (by decide) (by omega) (by omega) (fun h28 e29 => ?_)
          have f30 := frm_1 e29
          have k31 := rk_q (frm_s f30) k22
          have H32 := rB_c f30 (fun a k q => by omega) H23
          have H33 := rM_c f30 (fun a k q => by omega) H24
          have FR34 := frm_t FR25 (frm_m (S' := (fun a k => (a = m ∧ (k = 45 ∨ k = 46)) ∨ (m + 16 ≤ a ∧ a ≤ m + 18))) f30 (fun a k q => by omega))
          refine z_iinc (L' := [_, _, _, _, _]) dX12_findBest_130 rfl rfl ?_
          refine e_goto 112 dX12_findBest_133 rfl ?_
          exact ih21 _ (by omega) (y + 1) h28 rfl k31 H32 H33 FR34 (by omega) (fun d a c => by
                    by_cases q : d = y
                    · rw [q]; exact (rI_eq e29 ⟨by omega, by omega⟩)
                    · exact ((frm_r f30 (by omega))).trans (Y2 d a (by omega))) (fun d a c => ((frm_r f30 (by omega))).trans (Y3 d a c)) (⟨((frm_r f30 (by omega))).trans Y4.1, ((frm_r f30 (by omega))).trans Y4.2⟩)
      exact lp21 _ 0 h15 rfl k16 H17 H18 FR19 (by omega) (fun d a c => by omega) (B4 vx) (⟨by rw [if_neg vx] at B3; exact B3, by rw [B5, show k = 117649 by omega]⟩)
    · skip
      refine e_aload_n dX12_findBest_21 rfl ?_
      refine e_iload_n dX12_findBest_22 rfl ?_
      refine e_callV [.int _] dX12_findBest_23 tm_12_426 rfl (Nat.le_of_ble_eq_true rfl) (rk_s k16) (Nat.le_of_ble_eq_true rfl) (Nat.le_refl _) (Nat.le_refl _) rfl (zp_X12_isRow k16 H17 k ⟨by omega, by omega⟩ (by omega) (fun v35 p36 h37 f38 p39 => ?_))
      have k40 := rk_q (frm_s f38) k16
      have H41 := rB_c f38 (fun a k q => by omega) H17
      have H42 := rM_c f38 (fun a k q => by omega) H18
      have FR43 := frm_t FR19 (frm_m (S' := (fun a k => (a = m ∧ (k = 45 ∨ k = 46)) ∨ (m + 16 ≤ a ∧ a ≤ m + 18))) f38 (fun a k q => by omega))
      skip
      have ir : (v35 = 1 ∧ isRw g (dgZ k)) ∨ (v35 = 0 ∧ ¬ isRw g (dgZ k)) := by assumption
      have irb : v35 = 0 ∨ v35 = 1 := by rcases ir with q | q; exact Or.inr q.1; exact Or.inl q.1
      refine z_if_eq 104 dX12_findBest_26 rfl ⟨by omega, by omega⟩ (fun c44 => ?_) (fun c44 => ?_)
      · skip
        skip
        skip
        refine z_iinc (L' := [_, _, _, _, _]) dX12_findBest_104 rfl rfl ?_
        refine e_goto 14 dX12_findBest_107 rfl ?_
        exact ih15 _ (by omega) (k + 1) v h37 rfl k40 H41 H42 FR43 (by omega) (fmax_no B2 (fun z => by rcases ir with q | q; omega; exact q.2 z.1)) (((frm_r f38 (by omega))).trans B3) (fun z d a c => ((frm_r f38 (by omega))).trans (B4 z d a c)) ((((frm_r f38 (by omega))).trans B5).trans (by rw [stC_o (by omega)]; omega))
      · skip
        have rw1 : isRw g (dgZ k) := by rcases ir with q | q; exact q.2; exact absurd q.1 (by omega)
        have RW := p39 (by omega)
        refine e_aload_n dX12_findBest_29 rfl ?_
        refine e_iload_n dX12_findBest_30 rfl ?_
        refine e_callV [.int _] dX12_findBest_31 tm_12_429 rfl (Nat.le_of_ble_eq_true rfl) (rk_s k40) (Nat.le_of_ble_eq_true rfl) (Nat.le_refl _) (Nat.le_refl _) rfl (zp_X12_worthBy_5 k40 H41 H42 RW (fun  h45 f46  => ?_))
        have k47 := rk_q (frm_s f46) k40
        have H48 := rB_c f46 (fun a k q => by omega) H41
        have H49 := rM_c f46 (fun a k q => by omega) H42
        have H50 := rRw_c f46 (fun a k q => by omega) RW
        have FR51 := frm_t FR43 (frm_m (S' := (fun a k => (a = m ∧ (k = 45 ∨ k = 46)) ∨ (m + 16 ≤ a ∧ a ≤ m + 18))) f46 (fun a k q => by omega))
        have y52 := wtB_b (show (0 ≤ nd g ∧ nd g ≤ 6) ∧ (0 ≤ nu g ∧ nu g ≤ 6) by omega) 5 (dgZ k)
        have wk : (wtB g 5 (dgZ k)) = wtK g 5 k := rfl
        have va : -1000000 < wtK g 5 k → vaB g 5 k := fun z => ⟨rw1, z⟩
        have vn : wtK g 5 k ≤ -1000000 → ¬ vaB g 5 k := fun z w => by have w2 : -1000000 < wtK g 5 k := w.2; omega
        refine e_istore_n (L' := [_, _, _, _, _]) dX12_findBest_34 (Nat.le_of_ble_eq_true rfl) rfl ?_
        refine e_aload_n dX12_findBest_35 rfl ?_
        refine e_dup dX12_findBest_36 rfl ?_
        refine z_get (stC g 5 k) dX12_findBest_37 tf_12_422 (rk_s k47) (Or.inl rfl) ((((frm_r f46 (by omega)).trans (frm_r f38 (by omega)))).trans B5) ?_
        refine e_iload_n dX12_findBest_40 rfl ?_
        refine z_iconst (3) dX12_findBest_41 rfl ?_
        refine z_icmp_ne 56 dX12_findBest_42 rfl ⟨by omega, by omega⟩ ⟨by omega, by omega⟩ (fun c53 => ?_) (fun c53 => ?_)
        · skip
          refine z_iconst (0) dX12_findBest_56 rfl ?_
          refine z_iadd dX12_findBest_57 ?_
          refine z_put dX12_findBest_58 tf_12_422 (rk_s k47) rfl (Or.inl rfl) (fun h54 e55 => ?_)
          have f56 := frm_1 e55
          have k57 := rk_q (frm_s f56) k47
          have H58 := rB_c f56 (fun a k q => by omega) H48
          have H59 := rM_c f56 (fun a k q => by omega) H49
          have H60 := rRw_c f56 (fun a k q => by omega) H50
          have FR61 := frm_t FR51 (frm_m (S' := (fun a k => (a = m ∧ (k = 45 ∨ k = 46)) ∨ (m + 16 ≤ a ∧ a ≤ m + 18))) f56 (fun a k q => by omega))
          have z62 : rI h54 m 46 = ((stC g 5 k) + 0) := (rI_eq e55 ⟨by omega, by omega⟩)
          have B3b : rI h15 m 45 = if v = -1 then -1000000 else wtK g 5 v := B3
          refine e_iload_n dX12_findBest_61 rfl ?_
          refine e_aload_n dX12_findBest_62 rfl ?_
          refine z_get (rI h15 m 45) dX12_findBest_63 tf_12_419 (rk_s k57) (Or.inl rfl) ((frm_r f56 (by omega)).trans ((frm_r f46 (by omega)).trans (frm_r f38 (by omega)))) ?_
          have y63 := rI_i h15 m 45
          refine z_icmp_le 104 dX12_findBest_66 rfl ⟨by omega, by omega⟩ ⟨by omega, by omega⟩ (fun c64 => ?_) (fun c64 => ?_)
          · skip
            skip
            refine z_iinc (L' := [_, _, _, _, _]) dX12_findBest_104 rfl rfl ?_
            refine e_goto 14 dX12_findBest_107 rfl ?_
            exact mEv_wk (by exact ⟨Or.inr rfl, Or.inr rfl, Or.inr rfl, Or.inl rfl, Or.inl rfl, trivial⟩) (ih15 _ (by omega) (k + 1) v h54 rfl k57 H58 H59 FR61 (by omega) (by
                      by_cases z : -1000000 < wtK g 5 k
                      · exact fmax_keep B2 (fun q => by rw [if_pos q] at B3b; omega) (by have q : v ≠ -1 := (fun q => by rw [if_pos q] at B3b; omega); rw [if_neg q] at B3b; omega)
                      · exact fmax_no B2 (vn (by omega))) ((((frm_r f56 (by omega)).trans ((frm_r f46 (by omega)).trans (frm_r f38 (by omega))))).trans B3) (fun z d a c => (((frm_r f56 (by omega)).trans ((frm_r f46 (by omega)).trans (frm_r f38 (by omega))))).trans (B4 z d a c)) (by rw [stC_o (by omega)]; exact z62))
          · skip
            refine e_aload_n dX12_findBest_69 rfl ?_
            refine e_iload_n dX12_findBest_70 rfl ?_
            refine z_put dX12_findBest_71 tf_12_419 (rk_s k57) rfl (Or.inl rfl) (fun h65 e66 => ?_)
            have f67 := frm_1 e66
            have k68 := rk_q (frm_s f67) k57
            have H69 := rB_c f67 (fun a k q => by omega) H58
            have H70 := rM_c f67 (fun a k q => by omega) H59
            have H71 := rRw_c f67 (fun a k q => by omega) H60
            have FR72 := frm_t FR61 (frm_m (S' := (fun a k => (a = m ∧ (k = 45 ∨ k = 46)) ∨ (m + 16 ≤ a ∧ a ≤ m + 18))) f67 (fun a k q => by omega))
            have z73 : rI h65 m 45 = (wtB g 5 (dgZ k)) := (rI_eq e66 ⟨by omega, by omega⟩)
            have z74 : rI h65 m 46 = _ := ((frm_r f67 (by omega))).trans z62
            refine z_iconst (0) dX12_findBest_74 rfl ?_
            refine e_istore (L' := [_, _, _, _, _]) dX12_findBest_75 (Nat.le_of_ble_eq_true rfl) rfl ?_
            have lp75 : ∀ (n75 : Nat) (x : Int) (h75 : mH), (6 - x).toNat = n75 → (rk h75 m) → (rB h75 m g) → (rM h75 m g) → (rRw h75 m g (dgZ k)) → (frm (fun a k => (a = m ∧ (k = 45 ∨ k = 46)) ∨ (m + 16 ≤ a ∧ a ≤ m + 18)) h h75) → (0 ≤ x ∧ x ≤ 6) → (∀ d : Int, 0 ≤ d → d < x → rI h75 (m + 17) d = dgZ k d) → (∀ (a : Nat) (z : Int), a ≠ m + 17 → rI h75 a z = rI h65 a z) → mEv TB0 ad M_X12_findBest (dd + 7) (0, 0) (mCal TB0 ad (dd + 6)) (fun v h' z => z.1 = 0 ∧ Q v h') 77 [some (.ref m), some (.int (zI 5)), some (.int (zI k)), some (.int (zI (wtB g 5 (dgZ k)))), some (.int (zI x))] [] h75 (0, 0) := by
              intro n75
              induction n75 using Nat.strongRecOn with
              | ind n75 ih75 =>
              intro x h75 hn75 k76 H77 H78 H79 FR80 X1 BC CP
              refine e_iload dX12_findBest_77 rfl ?_
              refine z_bipush (6) dX12_findBest_79 rfl ?_
              refine z_icmp_ge 104 dX12_findBest_81 rfl ⟨by omega, by omega⟩ ⟨by omega, by omega⟩ (fun c81 => ?_) (fun c81 => ?_)
              · skip
                have z82 : rI h75 m 45 = _ := (CP m 45 (by omega)).trans z73
                have z83 : rI h75 m 46 = _ := (CP m 46 (by omega)).trans z74
                refine z_iinc (L' := [_, _, _, _, _]) dX12_findBest_104 rfl rfl ?_
                refine e_goto 14 dX12_findBest_107 rfl ?_
                exact mEv_wk (by exact ⟨Or.inr rfl, Or.inr rfl, Or.inr rfl, Or.inl rfl, Or.inl rfl, trivial⟩) (ih15 _ (by omega) (k + 1) k h75 rfl k76 H77 H78 FR80 (by omega) (fmax_new B2 (by omega) (va (by omega)) (by by_cases q : v = -1; exact Or.inl q; rw [if_neg q] at B3b; exact Or.inr (by omega))) (by rw [if_neg (by omega)]; exact z82) (fun _ d a c => (BC d a (by omega))) (by rw [stC_o (by omega)]; exact z83))
              · skip
                refine e_aload_n dX12_findBest_84 rfl ?_
                refine e_get (.ref (m + 17)) dX12_findBest_85 tf_12_59 (rk_s k76) (congrArg va_rf (rk_r17 k76)) ?_
                refine e_iload dX12_findBest_88 rfl ?_
                refine e_aload_n dX12_findBest_90 rfl ?_
                refine e_get (.ref (m + 16)) dX12_findBest_91 tf_12_56 (rk_s k76) (congrArg va_rf (rk_r16 k76)) ?_
                refine e_iload dX12_findBest_94 rfl ?_
                refine z_ild ((dgZ k) x) dX12_findBest_96 (rk_a16 k76) (by decide) (by omega) (by omega) (H79.2 x (by omega) (by omega)) ?_
                have y84 := isRw_f H79.1.1 (show 0 ≤ x by omega) (by omega)
                have y85 := H79.1.2 x (by omega) (by omega)
                refine z_ist dX12_findBest_97 (rk_a17 k76) (by decide) (by omega) (by omega) (fun h86 e87 => ?_)
                have f88 := frm_1 e87
                have k89 := rk_q (frm_s f88) k76
                have H90 := rB_c f88 (fun a k q => by omega) H77
                have H91 := rM_c f88 (fun a k q => by omega) H78
                have H92 := rRw_c f88 (fun a k q => by omega) H79
                have FR93 := frm_t FR80 (frm_m (S' := (fun a k => (a = m ∧ (k = 45 ∨ k = 46)) ∨ (m + 16 ≤ a ∧ a ≤ m + 18))) f88 (fun a k q => by omega))
                refine z_iinc (L' := [_, _, _, _, _]) dX12_findBest_98 rfl rfl ?_
                refine e_goto 77 dX12_findBest_101 rfl ?_
                exact ih75 _ (by omega) (x + 1) h86 rfl k89 H90 H91 H92 FR93 (by omega) (fun d a c => by
                          by_cases q : d = x
                          · rw [q]; exact (rI_eq e87 ⟨by omega, by omega⟩)
                          · exact ((frm_r f88 (by omega))).trans (BC d a (by omega))) (fun a z n => ((frm_r f88 (by omega))).trans (CP a z n))
            exact lp75 _ 0 h65 rfl k68 H69 H70 H71 FR72 (by omega) (fun d a c => by omega) (fun a z n => rfl)
        · exfalso; omega
  exact lp15 _ 0 (-1) h8 rfl k11 H12 H13 FR14 (by omega) (fmax_0 _ _ (by omega)) (by rw [if_pos rfl]; exact (show rI h8 m 45 = (-1000000) from ((frm_r f10 (by omega)).trans (rI_eq e2 ⟨by omega, by omega⟩)))) (fun z => absurd rfl z) ((show rI h8 m 46 = 0 from (rI_eq e9 ⟨by omega, by omega⟩)).trans (by have := stC_b g 5 (k := 0) (by omega); omega))
