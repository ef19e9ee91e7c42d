/-! ROWS: the class's ranks -/
theorem dX5_upsLikedMore_0 : decode cX5_upsLikedMore 0 = .ok (.iconst 0, 1) := by decide +kernel
theorem dX5_upsLikedMore_1 : decode cX5_upsLikedMore 1 = .ok (.istore_n 3, 1) := by decide +kernel
theorem dX5_upsLikedMore_2 : decode cX5_upsLikedMore 2 = .ok (.iconst 0, 1) := by decide +kernel
theorem dX5_upsLikedMore_3 : decode cX5_upsLikedMore 3 = .ok (.istore 4, 2) := by decide +kernel
theorem dX5_upsLikedMore_5 : decode cX5_upsLikedMore 5 = .ok (.iload 4, 2) := by decide +kernel
theorem dX5_upsLikedMore_7 : decode cX5_upsLikedMore 7 = .ok (.aload_n 0, 1) := by decide +kernel
theorem dX5_upsLikedMore_8 : decode cX5_upsLikedMore 8 = .ok (.getfield 12, 3) := by decide +kernel
theorem dX5_upsLikedMore_11 : decode cX5_upsLikedMore 11 = .ok (.getfield 67, 3) := by decide +kernel
theorem dX5_upsLikedMore_14 : decode cX5_upsLikedMore 14 = .ok (.getfield 57, 3) := by decide +kernel
theorem dX5_upsLikedMore_17 : decode cX5_upsLikedMore 17 = .ok (.if_icmp .ge 59, 3) := by decide +kernel
theorem dX5_upsLikedMore_20 : decode cX5_upsLikedMore 20 = .ok (.aload_n 0, 1) := by decide +kernel
theorem dX5_upsLikedMore_21 : decode cX5_upsLikedMore 21 = .ok (.getfield 40, 3) := by decide +kernel
theorem dX5_upsLikedMore_24 : decode cX5_upsLikedMore 24 = .ok (.iload_n 1, 1) := by decide +kernel
theorem dX5_upsLikedMore_25 : decode cX5_upsLikedMore 25 = .ok (.bipush 7, 2) := by decide +kernel
theorem dX5_upsLikedMore_27 : decode cX5_upsLikedMore 27 = .ok (.imul, 1) := by decide +kernel
theorem dX5_upsLikedMore_28 : decode cX5_upsLikedMore 28 = .ok (.iload 4, 2) := by decide +kernel
theorem dX5_upsLikedMore_30 : decode cX5_upsLikedMore 30 = .ok (.iadd, 1) := by decide +kernel
theorem dX5_upsLikedMore_31 : decode cX5_upsLikedMore 31 = .ok (.iaload, 1) := by decide +kernel
theorem dX5_upsLikedMore_32 : decode cX5_upsLikedMore 32 = .ok (.aload_n 0, 1) := by decide +kernel
theorem dX5_upsLikedMore_33 : decode cX5_upsLikedMore 33 = .ok (.getfield 40, 3) := by decide +kernel
theorem dX5_upsLikedMore_36 : decode cX5_upsLikedMore 36 = .ok (.iload_n 1, 1) := by decide +kernel
theorem dX5_upsLikedMore_37 : decode cX5_upsLikedMore 37 = .ok (.bipush 7, 2) := by decide +kernel
theorem dX5_upsLikedMore_39 : decode cX5_upsLikedMore 39 = .ok (.imul, 1) := by decide +kernel
theorem dX5_upsLikedMore_40 : decode cX5_upsLikedMore 40 = .ok (.iload_n 2, 1) := by decide +kernel
theorem dX5_upsLikedMore_41 : decode cX5_upsLikedMore 41 = .ok (.iadd, 1) := by decide +kernel
theorem dX5_upsLikedMore_42 : decode cX5_upsLikedMore 42 = .ok (.iaload, 1) := by decide +kernel
theorem dX5_upsLikedMore_43 : decode cX5_upsLikedMore 43 = .ok (.isub, 1) := by decide +kernel
theorem dX5_upsLikedMore_44 : decode cX5_upsLikedMore 44 = .ok (.istore 5, 2) := by decide +kernel
theorem dX5_upsLikedMore_46 : decode cX5_upsLikedMore 46 = .ok (.iload_n 3, 1) := by decide +kernel
theorem dX5_upsLikedMore_47 : decode cX5_upsLikedMore 47 = .ok (.iload 5, 2) := by decide +kernel
theorem dX5_upsLikedMore_49 : decode cX5_upsLikedMore 49 = .ok (.ifCond .gt 14, 3) := by decide +kernel
theorem dX5_upsLikedMore_52 : decode cX5_upsLikedMore 52 = .ok (.iload 5, 2) := by decide +kernel
theorem dX5_upsLikedMore_54 : decode cX5_upsLikedMore 54 = .ok (.ifCond .ne 13, 3) := by decide +kernel
theorem dX5_upsLikedMore_57 : decode cX5_upsLikedMore 57 = .ok (.iload 4, 2) := by decide +kernel
theorem dX5_upsLikedMore_59 : decode cX5_upsLikedMore 59 = .ok (.iload_n 2, 1) := by decide +kernel
theorem dX5_upsLikedMore_60 : decode cX5_upsLikedMore 60 = .ok (.if_icmp .ge 7, 3) := by decide +kernel
theorem dX5_upsLikedMore_63 : decode cX5_upsLikedMore 63 = .ok (.iconst 1, 1) := by decide +kernel
theorem dX5_upsLikedMore_64 : decode cX5_upsLikedMore 64 = .ok (.goto 4, 3) := by decide +kernel
theorem dX5_upsLikedMore_67 : decode cX5_upsLikedMore 67 = .ok (.iconst 0, 1) := by decide +kernel
theorem dX5_upsLikedMore_68 : decode cX5_upsLikedMore 68 = .ok (.iadd, 1) := by decide +kernel
theorem dX5_upsLikedMore_69 : decode cX5_upsLikedMore 69 = .ok (.istore_n 3, 1) := by decide +kernel
theorem dX5_upsLikedMore_70 : decode cX5_upsLikedMore 70 = .ok (.iinc 4 1, 3) := by decide +kernel
theorem dX5_upsLikedMore_73 : decode cX5_upsLikedMore 73 = .ok (.goto (-68), 3) := by decide +kernel
theorem dX5_upsLikedMore_76 : decode cX5_upsLikedMore 76 = .ok (.iload_n 3, 1) := by decide +kernel
theorem dX5_upsLikedMore_77 : decode cX5_upsLikedMore 77 = .ok (.ireturn, 1) := by decide +kernel
theorem dX5_downsLikedMore_0 : decode cX5_downsLikedMore 0 = .ok (.iconst 0, 1) := by decide +kernel
theorem dX5_downsLikedMore_1 : decode cX5_downsLikedMore 1 = .ok (.istore_n 3, 1) := by decide +kernel
theorem dX5_downsLikedMore_2 : decode cX5_downsLikedMore 2 = .ok (.iconst 0, 1) := by decide +kernel
theorem dX5_downsLikedMore_3 : decode cX5_downsLikedMore 3 = .ok (.istore 4, 2) := by decide +kernel
theorem dX5_downsLikedMore_5 : decode cX5_downsLikedMore 5 = .ok (.iload 4, 2) := by decide +kernel
theorem dX5_downsLikedMore_7 : decode cX5_downsLikedMore 7 = .ok (.aload_n 0, 1) := by decide +kernel
theorem dX5_downsLikedMore_8 : decode cX5_downsLikedMore 8 = .ok (.getfield 12, 3) := by decide +kernel
theorem dX5_downsLikedMore_11 : decode cX5_downsLikedMore 11 = .ok (.getfield 53, 3) := by decide +kernel
theorem dX5_downsLikedMore_14 : decode cX5_downsLikedMore 14 = .ok (.getfield 57, 3) := by decide +kernel
theorem dX5_downsLikedMore_17 : decode cX5_downsLikedMore 17 = .ok (.if_icmp .ge 59, 3) := by decide +kernel
theorem dX5_downsLikedMore_20 : decode cX5_downsLikedMore 20 = .ok (.aload_n 0, 1) := by decide +kernel
theorem dX5_downsLikedMore_21 : decode cX5_downsLikedMore 21 = .ok (.getfield 40, 3) := by decide +kernel
theorem dX5_downsLikedMore_24 : decode cX5_downsLikedMore 24 = .ok (.iload 4, 2) := by decide +kernel
theorem dX5_downsLikedMore_26 : decode cX5_downsLikedMore 26 = .ok (.bipush 7, 2) := by decide +kernel
theorem dX5_downsLikedMore_28 : decode cX5_downsLikedMore 28 = .ok (.imul, 1) := by decide +kernel
theorem dX5_downsLikedMore_29 : decode cX5_downsLikedMore 29 = .ok (.iload_n 1, 1) := by decide +kernel
theorem dX5_downsLikedMore_30 : decode cX5_downsLikedMore 30 = .ok (.iadd, 1) := by decide +kernel
theorem dX5_downsLikedMore_31 : decode cX5_downsLikedMore 31 = .ok (.iaload, 1) := by decide +kernel
theorem dX5_downsLikedMore_32 : decode cX5_downsLikedMore 32 = .ok (.aload_n 0, 1) := by decide +kernel
theorem dX5_downsLikedMore_33 : decode cX5_downsLikedMore 33 = .ok (.getfield 40, 3) := by decide +kernel
theorem dX5_downsLikedMore_36 : decode cX5_downsLikedMore 36 = .ok (.iload_n 2, 1) := by decide +kernel
theorem dX5_downsLikedMore_37 : decode cX5_downsLikedMore 37 = .ok (.bipush 7, 2) := by decide +kernel
theorem dX5_downsLikedMore_39 : decode cX5_downsLikedMore 39 = .ok (.imul, 1) := by decide +kernel
theorem dX5_downsLikedMore_40 : decode cX5_downsLikedMore 40 = .ok (.iload_n 1, 1) := by decide +kernel
theorem dX5_downsLikedMore_41 : decode cX5_downsLikedMore 41 = .ok (.iadd, 1) := by decide +kernel
theorem dX5_downsLikedMore_42 : decode cX5_downsLikedMore 42 = .ok (.iaload, 1) := by decide +kernel
theorem dX5_downsLikedMore_43 : decode cX5_downsLikedMore 43 = .ok (.isub, 1) := by decide +kernel
theorem dX5_downsLikedMore_44 : decode cX5_downsLikedMore 44 = .ok (.istore 5, 2) := by decide +kernel
theorem dX5_downsLikedMore_46 : decode cX5_downsLikedMore 46 = .ok (.iload_n 3, 1) := by decide +kernel
theorem dX5_downsLikedMore_47 : decode cX5_downsLikedMore 47 = .ok (.iload 5, 2) := by decide +kernel
theorem dX5_downsLikedMore_49 : decode cX5_downsLikedMore 49 = .ok (.ifCond .gt 14, 3) := by decide +kernel
theorem dX5_downsLikedMore_52 : decode cX5_downsLikedMore 52 = .ok (.iload 5, 2) := by decide +kernel
theorem dX5_downsLikedMore_54 : decode cX5_downsLikedMore 54 = .ok (.ifCond .ne 13, 3) := by decide +kernel
theorem dX5_downsLikedMore_57 : decode cX5_downsLikedMore 57 = .ok (.iload 4, 2) := by decide +kernel
theorem dX5_downsLikedMore_59 : decode cX5_downsLikedMore 59 = .ok (.iload_n 2, 1) := by decide +kernel
theorem dX5_downsLikedMore_60 : decode cX5_downsLikedMore 60 = .ok (.if_icmp .ge 7, 3) := by decide +kernel
theorem dX5_downsLikedMore_63 : decode cX5_downsLikedMore 63 = .ok (.iconst 1, 1) := by decide +kernel
theorem dX5_downsLikedMore_64 : decode cX5_downsLikedMore 64 = .ok (.goto 4, 3) := by decide +kernel
theorem dX5_downsLikedMore_67 : decode cX5_downsLikedMore 67 = .ok (.iconst 0, 1) := by decide +kernel
theorem dX5_downsLikedMore_68 : decode cX5_downsLikedMore 68 = .ok (.iadd, 1) := by decide +kernel
theorem dX5_downsLikedMore_69 : decode cX5_downsLikedMore 69 = .ok (.istore_n 3, 1) := by decide +kernel
theorem dX5_downsLikedMore_70 : decode cX5_downsLikedMore 70 = .ok (.iinc 4 1, 3) := by decide +kernel
theorem dX5_downsLikedMore_73 : decode cX5_downsLikedMore 73 = .ok (.goto (-68), 3) := by decide +kernel
theorem dX5_downsLikedMore_76 : decode cX5_downsLikedMore 76 = .ok (.iload_n 3, 1) := by decide +kernel
theorem dX5_downsLikedMore_77 : decode cX5_downsLikedMore 77 = .ok (.ireturn, 1) := by decide +kernel
theorem tf_5_53 : tFld TB0 5 53 = some (2, 0) := rfl
theorem tf_5_57 : tFld TB0 5 57 = some (0, 5) := rfl
theorem tf_5_67 : tFld TB0 5 67 = some (2, 1) := rfl
/-! ROWS: the class's Matcher (before at y + 35, fits 39, ranks 40, 41; row 33, mate 34) -/
theorem sum_lt {f f' : Int → Int} {n : Nat} (h : ∀ i : Int, 0 ≤ i → i < n → f i ≤ f' i) {x : Int} (x0 : 0 ≤ x) (x1 : x < n) (q : f x < f' x) : sumZ f n < sumZ f' n := by
  have le : ∀ m : Nat, m ≤ n → sumZ f m ≤ sumZ f' m ∧ (x < m → sumZ f m < sumZ f' m) := by
    intro m
    induction m with
    | zero => intro _; exact ⟨Int.le_refl _, fun z => by omega⟩
    | succ m ih =>
      intro hm
      have ih := ih (by omega)
      have e1 : sumZ f (m + 1) = sumZ f m + f (m : Int) := rfl
      have e2 : sumZ f' (m + 1) = sumZ f' m + f' (m : Int) := rfl
      have l := h (m : Int) (by omega) (by omega)
      rw [e1, e2]
      refine ⟨by omega, fun z => ?_⟩
      by_cases w : x = (m : Int)
      · rw [w] at q; omega
      · have := ih.2 (by omega); omega
  exact (le n (Nat.le_refl _)).2 x1
def dnR (g : Int → Int) (d u : Int) : Int := sumZ (fun o => bZ (KY g d u < KY g d o)) (nu g).toNat
def urN (g : Int → Int) (u d : Int) : Int := sumZ (fun o => bZ (KY g d u < KY g o u)) (nd g).toNat
theorem dnR_lt {g : Int → Int} {d u u' : Int} (u0 : 0 ≤ u) (u1 : u < nu g) (h : KY g d u' < KY g d u) : dnR g d u < dnR g d u' := by
  refine sum_lt (fun i a b => ?_) u0 (show u < ((nu g).toNat : Int) by omega) (by rw [bZ_0 (by omega), bZ_1 h]; omega)
  by_cases q : KY g d u < KY g d i
  · rw [bZ_1 q, bZ_1 (by omega)]; omega
  · rw [bZ_0 q]; exact bZ_lo _
theorem dnR_i {g : Int → Int} {d u u' : Int} (d0 : 0 ≤ d ∧ d < 6) (h6 : nu g ≤ 6) (u0 : 0 ≤ u ∧ u < nu g) (v0 : 0 ≤ u' ∧ u' < nu g) : dnR g d u < dnR g d u' ↔ KY g d u' < KY g d u := by
  constructor
  · intro h
    rcases (show KY g d u' < KY g d u ∨ KY g d u' = KY g d u ∨ KY g d u < KY g d u' by omega) with q | q | q
    · exact q
    · have := (KY_ne d0 (by omega) d0 (by omega) q).2
      rw [this] at h; omega
    · have := dnR_lt v0.1 v0.2 q; omega
  · exact dnR_lt u0.1 u0.2
theorem dnR_b {g : Int → Int} {d u : Int} (n : 0 ≤ nu g ∧ nu g ≤ 6) (u0 : 0 ≤ u) (u1 : u < nu g) : 0 ≤ dnR g d u ∧ dnR g d u < nu g := by
  have a := sumZ_b (f := fun o => bZ (KY g d u < KY g d o)) (lo := 0) (hi := 1) (n := (nu g).toNat) (fun i _ _ => ⟨bZ_lo _, bZ_hi _⟩)
  have b := sum_lt (f := fun o => bZ (KY g d u < KY g d o)) (f' := fun _ => 1) (n := (nu g).toNat) (fun i _ _ => bZ_hi _) u0 (by omega) (by rw [bZ_0 (by omega)]; omega)
  have c := sumZ_b (f := fun _ => 1) (lo := 1) (hi := 1) (n := (nu g).toNat) (fun i _ _ => by omega)
  unfold dnR; omega
theorem urN_lt {g : Int → Int} {u d d' : Int} (u0 : 0 ≤ d) (u1 : d < nd g) (h : KY g d' u < KY g d u) : urN g u d < urN g u d' := by
  refine sum_lt (fun i a b => ?_) u0 (show d < ((nd g).toNat : Int) by omega) (by rw [bZ_0 (by omega), bZ_1 h]; omega)
  by_cases q : KY g d u < KY g i u
  · rw [bZ_1 q, bZ_1 (by omega)]; omega
  · rw [bZ_0 q]; exact bZ_lo _
theorem urN_i {g : Int → Int} {u d d' : Int} (d0 : 0 ≤ u ∧ u < 6) (h6 : nd g ≤ 6) (u0 : 0 ≤ d ∧ d < nd g) (v0 : 0 ≤ d' ∧ d' < nd g) : urN g u d < urN g u d' ↔ KY g d' u < KY g d u := by
  constructor
  · intro h
    rcases (show KY g d' u < KY g d u ∨ KY g d' u = KY g d u ∨ KY g d u < KY g d' u by omega) with q | q | q
    · exact q
    · have := (KY_ne (by omega) d0 (by omega) d0 q).1
      rw [this] at h; omega
    · have := urN_lt v0.1 v0.2 q; omega
  · exact urN_lt u0.1 u0.2
theorem urN_b {g : Int → Int} {u d : Int} (n : 0 ≤ nd g ∧ nd g ≤ 6) (u0 : 0 ≤ d) (u1 : d < nd g) : 0 ≤ urN g u d ∧ urN g u d < nd g := by
  have a := sumZ_b (f := fun o => bZ (KY g d u < KY g o u)) (lo := 0) (hi := 1) (n := (nd g).toNat) (fun i _ _ => ⟨bZ_lo _, bZ_hi _⟩)
  have b := sum_lt (f := fun o => bZ (KY g d u < KY g o u)) (f' := fun _ => 1) (n := (nd g).toNat) (fun i _ _ => bZ_hi _) u0 (by omega) (by rw [bZ_0 (by omega)]; omega)
  have c := sumZ_b (f := fun _ => 1) (lo := 1) (hi := 1) (n := (nd g).toNat) (fun i _ _ => by omega)
  unfold urN; omega
def fiN (h : mH) (y : Nat) (g : Int → Int) (D E : Int) : Prop := ∀ d u : Int, 0 ≤ d → d < nd g → 0 ≤ u → u < nu g → (d < D ∨ (d = D ∧ u < E)) → rI h (y + 39) (d * 7 + u) = fitZ g d u
def fiT (h : mH) (y : Nat) (g : Int → Int) : Prop := ∀ d u : Int, 0 ≤ d → d < nd g → 0 ≤ u → u < nu g → rI h (y + 39) (d * 7 + u) = fitZ g d u
theorem fiT_c {S : Nat → Nat → Prop} {h h1 : mH} {y : Nat} {g : Int → Int} (f : frm S h h1) (z : ∀ a k, a = y + 39 → ¬ S a k) (H : fiT h y g) : fiT h1 y g := fun d u a b c e => (frm_r f (z _ _ rfl)).trans (H d u a b c e)
def dRk (g : Int → Int) (D E d u : Int) : Int := if (d < nd g ∧ u < nu g) ∧ (d < D ∨ (d = D ∧ u < E)) then dnR g d u else 6
def uRk (g : Int → Int) (D E u d : Int) : Int := if (d < nd g ∧ u < nu g) ∧ (d < D ∨ (d = D ∧ u < E)) then urN g u d else 6
def rkN (h : mH) (y : Nat) (g : Int → Int) (D E : Int) : Prop := (∀ d u : Int, 0 ≤ d → d < 6 → 0 ≤ u → u ≤ 6 → rI h (y + 40) (d * 7 + u) = dRk g D E d u) ∧ ∀ u d : Int, 0 ≤ u → u < 6 → 0 ≤ d → d ≤ 6 → rI h (y + 41) (u * 7 + d) = uRk g D E u d
def dR (g : Int → Int) (d u : Int) : Int := if d < nd g ∧ u < nu g then dnR g d u else 6
def uR (g : Int → Int) (u d : Int) : Int := if d < nd g ∧ u < nu g then urN g u d else 6
/-- all that bind lays -/
def bdC (h : mH) (y : Nat) (g : Int → Int) : Prop := wfF g ∧ (∀ d : Int, 0 ≤ d → d < nd g → rI h (y + 35) d = tlR g d) ∧ fiT h y g ∧ (∀ d u : Int, 0 ≤ d → d < 6 → 0 ≤ u → u ≤ 6 → rI h (y + 40) (d * 7 + u) = dR g d u) ∧ ∀ u d : Int, 0 ≤ u → u < 6 → 0 ≤ d → d ≤ 6 → rI h (y + 41) (u * 7 + d) = uR g u d
theorem bdC_c {S : Nat → Nat → Prop} {h h1 : mH} {y : Nat} {g : Int → Int} (f : frm S h h1) (z : ∀ a k, a = y + 35 ∨ (y + 39 ≤ a ∧ a ≤ y + 41) → ¬ S a k) (H : bdC h y g) : bdC h1 y g := ⟨H.1, fun d a b => (frm_r f (z _ _ (by omega))).trans (H.2.1 d a b), fiT_c f (fun a k e => z a k (by omega)) H.2.2.1, fun d u a b c e => (frm_r f (z _ _ (by omega))).trans (H.2.2.2.1 d u a b c e), fun u d a b c e => (frm_r f (z _ _ (by omega))).trans (H.2.2.2.2 u d a b c e)⟩
theorem dR_b {g : Int → Int} (n : (0 ≤ nd g ∧ nd g ≤ 6) ∧ (0 ≤ nu g ∧ nu g ≤ 6)) {d u : Int} (u0 : 0 ≤ u) : 0 ≤ dR g d u ∧ dR g d u ≤ 6 := by
  unfold dR
  split
  · have := dnR_b (g := g) (d := d) n.2 u0 (by omega); omega
  · omega
theorem uR_b {g : Int → Int} (n : (0 ≤ nd g ∧ nd g ≤ 6) ∧ (0 ≤ nu g ∧ nu g ≤ 6)) {u d : Int} (u0 : 0 ≤ d) : 0 ≤ uR g u d ∧ uR g u d ≤ 6 := by
  unfold uR
  split
  · have := urN_b (g := g) (u := u) n.1 u0 (by omega); omega
  · omega
/-- ranks tell who is liked more, nobody least -/
theorem dR_lt {g : Int → Int} (n : (0 ≤ nd g ∧ nd g ≤ 6) ∧ (0 ≤ nu g ∧ nu g ≤ 6)) {d u x : Int} (d0 : 0 ≤ d ∧ d < nd g) (u0 : 0 ≤ u ∧ u < nu g) (x0 : x = 6 ∨ (0 ≤ x ∧ x < nu g)) : dR g d u < dR g d x ↔ (x = 6 ∨ KY g d x < KY g d u) := by
  have a := dnR_b (g := g) (d := d) n.2 u0.1 u0.2
  have e : dR g d u = dnR g d u := if_pos ⟨d0.2, u0.2⟩
  rw [e]
  rcases x0 with q | q
  · have e2 : dR g d x = 6 := if_neg (by omega)
    rw [e2]; exact ⟨fun _ => Or.inl q, fun _ => by omega⟩
  · have e2 : dR g d x = dnR g d x := if_pos ⟨d0.2, q.2⟩
    rw [e2, dnR_i (by omega) n.2.2 u0 q]
    exact ⟨Or.inr, fun z => z.resolve_left (by omega)⟩
theorem uR_lt {g : Int → Int} (n : (0 ≤ nd g ∧ nd g ≤ 6) ∧ (0 ≤ nu g ∧ nu g ≤ 6)) {d u x : Int} (d0 : 0 ≤ d ∧ d < nd g) (u0 : 0 ≤ u ∧ u < nu g) (x0 : x = 6 ∨ (0 ≤ x ∧ x < nd g)) : uR g u d < uR g u x ↔ (x = 6 ∨ KY g x u < KY g d u) := by
  have a := urN_b (g := g) (u := u) n.1 d0.1 d0.2
  have e : uR g u d = urN g u d := if_pos ⟨d0.2, u0.2⟩
  rw [e]
  rcases x0 with q | q
  · have e2 : uR g u x = 6 := if_neg (by omega)
    rw [e2]; exact ⟨fun _ => Or.inl q, fun _ => by omega⟩
  · have e2 : uR g u x = urN g u x := if_pos ⟨q.2, u0.2⟩
    rw [e2, urN_i (by omega) n.1.2 d0 q]
    exact ⟨Or.inr, fun z => z.resolve_left (by omega)⟩
/-- row and mate of the class -/
def mrC (h : mH) (y : Nat) (g r : Int → Int) : Prop := (isRw g r ∧ rbs r) ∧ (∀ d : Int, 0 ≤ d → d < 6 → rI h (y + 33) d = r d) ∧ ∀ u : Int, 0 ≤ u → u < 6 → own r u (rI h (y + 34) u)
theorem mrC_c {S : Nat → Nat → Prop} {h h1 : mH} {y : Nat} {g r : Int → Int} (f : frm S h h1) (z : ∀ a k, a = y + 33 ∨ a = y + 34 → ¬ S a k) (H : mrC h y g r) : mrC h1 y g r := ⟨H.1, fun d a b => (frm_r f (z _ _ (by omega))).trans (H.2.1 d a b), fun u a b => by rw [frm_r f (z _ _ (by omega))]; exact H.2.2 u a b⟩
set_option maxHeartbeats 400000 in
theorem zp_X5_upsLikedMore {ad : mA} {dd : Nat} {h : mH} {Q : mQ} {y : Nat} {g : Int → Int} (hk : mak h y) (HF : isF h (y + 1) g) (HI : fiT h y g)  (d : Int) (d_r : -2147483648 ≤ d ∧ d < 2147483648) (u : Int) (u_r : -2147483648 ≤ u ∧ u < 2147483648) (p1 : 0 ≤ d ∧ d < nd g) (p2 : 0 ≤ u ∧ u < nu g) (kq : Q (some (.int (zI (dnR g d u)))) h) : mCal TB0 ad (dd + 1) M_X5_upsLikedMore [.ref y, .int (zI d), .int (zI u)] h 0 0 Q := by
  refine ⟨Nat.le_of_ble_eq_true rfl, ?_⟩
  show mEv TB0 ad M_X5_upsLikedMore (dd + 1) (0, 0) (mCal TB0 ad (dd + 0)) (fun v h' z => z.1 = 0 ∧ Q v h') 0 [some (.ref y), some (.int (zI d)), some (.int (zI u)), none, none, none] [] h (0, 0)
  have w1 := isF_n HF
  have W := isF_w HF
  refine z_iconst (0) dX5_upsLikedMore_0 rfl ?_
  refine e_istore_n (L' := [_, _, _, _, _, _]) dX5_upsLikedMore_1 (Nat.le_of_ble_eq_true rfl) rfl ?_
  refine z_iconst (0) dX5_upsLikedMore_2 rfl ?_
  refine e_istore (L' := [_, _, _, _, _, _]) dX5_upsLikedMore_3 (Nat.le_of_ble_eq_true rfl) rfl ?_
  have lp1 : ∀ (n1 : Nat) (t o : Int), (nu g - o).toNat = n1 → (0 ≤ o ∧ o ≤ nu g) → (0 ≤ t ∧ t ≤ o) → (t = sumZ (fun o => bZ (KY g d u < KY g d o)) o.toNat) → mEv TB0 ad M_X5_upsLikedMore (dd + 1) (0, 0) (mCal TB0 ad (dd + 0)) (fun v h' z => z.1 = 0 ∧ Q v h') 5 [some (.ref y), some (.int (zI d)), some (.int (zI u)), some (.int (zI t)), some (.int (zI o)), none] [] h (0, 0) := by
    intro n1
    induction n1 using Nat.strongRecOn with
    | ind n1 ih1 =>
    intro t o  hn1  I1 I2 I3
    refine e_iload dX5_upsLikedMore_5 rfl ?_
    refine e_aload_n dX5_upsLikedMore_7 rfl ?_
    refine e_get (.ref (y + 1)) dX5_upsLikedMore_8 tf_5_12 (congrArg Prod.fst (ma_s0 hk)) (congrArg va_rf (ma_r0_0 hk)) ?_
    refine e_get (.ref (y + 8)) dX5_upsLikedMore_11 tf_5_67 (congrArg Prod.fst (ma_s1 hk)) (congrArg va_rf (ma_r1_1 hk)) ?_
    refine z_get (nu g) dX5_upsLikedMore_14 tf_5_57 (congrArg Prod.fst (ma_s8 hk)) (Or.inl rfl) (isF_nu HF) ?_
    have y2 := isF_n HF
    refine z_icmp_ge 76 dX5_upsLikedMore_17 rfl ⟨by omega, by omega⟩ ⟨by omega, by omega⟩ (fun c3 => ?_) (fun c3 => ?_)
    · skip
      refine e_iload_n dX5_upsLikedMore_76 rfl ?_
      refine z_iret dX5_upsLikedMore_77 rfl ⟨rfl, ?_⟩
      refine z_q kq ?_
      rw [I3, show o = nu g by omega]; rfl
    · skip
      refine e_aload_n dX5_upsLikedMore_20 rfl ?_
      refine e_get (.ref (y + 39)) dX5_upsLikedMore_21 tf_5_40 (congrArg Prod.fst (ma_s0 hk)) (congrArg va_rf (ma_r0_8 hk)) ?_
      refine e_iload_n dX5_upsLikedMore_24 rfl ?_
      refine z_bipush (7) dX5_upsLikedMore_25 rfl ?_
      refine z_imul dX5_upsLikedMore_27 ?_
      refine e_iload dX5_upsLikedMore_28 rfl ?_
      refine z_iadd dX5_upsLikedMore_30 ?_
      refine z_ild (fitZ g d o) dX5_upsLikedMore_31 (ma_s39 hk) (by decide) (by omega) (by omega) (HI d o (by omega) (by omega) (by omega) (by omega)) ?_
      have y4 := fitZ_b g d o
      refine e_aload_n dX5_upsLikedMore_32 rfl ?_
      refine e_get (.ref (y + 39)) dX5_upsLikedMore_33 tf_5_40 (congrArg Prod.fst (ma_s0 hk)) (congrArg va_rf (ma_r0_8 hk)) ?_
      refine e_iload_n dX5_upsLikedMore_36 rfl ?_
      refine z_bipush (7) dX5_upsLikedMore_37 rfl ?_
      refine z_imul dX5_upsLikedMore_39 ?_
      refine e_iload_n dX5_upsLikedMore_40 rfl ?_
      refine z_iadd dX5_upsLikedMore_41 ?_
      refine z_ild (fitZ g d u) dX5_upsLikedMore_42 (ma_s39 hk) (by decide) (by omega) (by omega) (HI d u (by omega) (by omega) (by omega) (by omega)) ?_
      have y5 := fitZ_b g d u
      refine z_isub dX5_upsLikedMore_43 ?_
      refine e_istore (L' := [_, _, _, _, _, _]) dX5_upsLikedMore_44 (Nat.le_of_ble_eq_true rfl) rfl ?_
      refine e_iload_n dX5_upsLikedMore_46 rfl ?_
      refine e_iload dX5_upsLikedMore_47 rfl ?_
      refine z_if_gt 63 dX5_upsLikedMore_49 rfl ⟨by omega, by omega⟩ (fun c6 => ?_) (fun c6 => ?_)
      · skip
        refine z_iconst (1) dX5_upsLikedMore_63 rfl ?_
        refine e_goto 68 dX5_upsLikedMore_64 rfl ?_
        refine z_iadd dX5_upsLikedMore_68 ?_
        refine e_istore_n (L' := [_, _, _, _, _, _]) dX5_upsLikedMore_69 (Nat.le_of_ble_eq_true rfl) rfl ?_
        refine z_iinc (L' := [_, _, _, _, _, _]) dX5_upsLikedMore_70 rfl rfl ?_
        refine e_goto 5 dX5_upsLikedMore_73 rfl ?_
        exact mEv_wk (by exact ⟨Or.inr rfl, Or.inr rfl, Or.inr rfl, Or.inr rfl, Or.inr rfl, Or.inl rfl, trivial⟩) (ih1 _ (by omega) (t + 1) (o + 1)  rfl  (by omega) (by omega) (by rw [sumZ_s (by omega)]; first | (rw [bZ_1 (by unfold KY; omega)]; omega) | (rw [bZ_0 (by unfold KY; omega)]; omega)))
      · skip
        refine e_iload dX5_upsLikedMore_52 rfl ?_
        refine z_if_ne 67 dX5_upsLikedMore_54 rfl ⟨by omega, by omega⟩ (fun c7 => ?_) (fun c7 => ?_)
        · skip
          refine z_iconst (0) dX5_upsLikedMore_67 rfl ?_
          refine z_iadd dX5_upsLikedMore_68 ?_
          refine e_istore_n (L' := [_, _, _, _, _, _]) dX5_upsLikedMore_69 (Nat.le_of_ble_eq_true rfl) rfl ?_
          refine z_iinc (L' := [_, _, _, _, _, _]) dX5_upsLikedMore_70 rfl rfl ?_
          refine e_goto 5 dX5_upsLikedMore_73 rfl ?_
          exact mEv_wk (by exact ⟨Or.inr rfl, Or.inr rfl, Or.inr rfl, Or.inr rfl, Or.inr rfl, Or.inl rfl, trivial⟩) (ih1 _ (by omega) (t + 0) (o + 1)  rfl  (by omega) (by omega) (by rw [sumZ_s (by omega)]; first | (rw [bZ_1 (by unfold KY; omega)]; omega) | (rw [bZ_0 (by unfold KY; omega)]; omega)))
        · skip
          refine e_iload dX5_upsLikedMore_57 rfl ?_
          refine e_iload_n dX5_upsLikedMore_59 rfl ?_
          refine z_icmp_ge 67 dX5_upsLikedMore_60 rfl ⟨by omega, by omega⟩ ⟨by omega, by omega⟩ (fun c8 => ?_) (fun c8 => ?_)
          · skip
            refine z_iconst (0) dX5_upsLikedMore_67 rfl ?_
            refine z_iadd dX5_upsLikedMore_68 ?_
            refine e_istore_n (L' := [_, _, _, _, _, _]) dX5_upsLikedMore_69 (Nat.le_of_ble_eq_true rfl) rfl ?_
            refine z_iinc (L' := [_, _, _, _, _, _]) dX5_upsLikedMore_70 rfl rfl ?_
            refine e_goto 5 dX5_upsLikedMore_73 rfl ?_
            exact mEv_wk (by exact ⟨Or.inr rfl, Or.inr rfl, Or.inr rfl, Or.inr rfl, Or.inr rfl, Or.inl rfl, trivial⟩) (ih1 _ (by omega) (t + 0) (o + 1)  rfl  (by omega) (by omega) (by rw [sumZ_s (by omega)]; first | (rw [bZ_1 (by unfold KY; omega)]; omega) | (rw [bZ_0 (by unfold KY; omega)]; omega)))
          · skip
            refine z_iconst (1) dX5_upsLikedMore_63 rfl ?_
            refine e_goto 68 dX5_upsLikedMore_64 rfl ?_
            refine z_iadd dX5_upsLikedMore_68 ?_
            refine e_istore_n (L' := [_, _, _, _, _, _]) dX5_upsLikedMore_69 (Nat.le_of_ble_eq_true rfl) rfl ?_
            refine z_iinc (L' := [_, _, _, _, _, _]) dX5_upsLikedMore_70 rfl rfl ?_
            refine e_goto 5 dX5_upsLikedMore_73 rfl ?_
            exact mEv_wk (by exact ⟨Or.inr rfl, Or.inr rfl, Or.inr rfl, Or.inr rfl, Or.inr rfl, Or.inl rfl, trivial⟩) (ih1 _ (by omega) (t + 1) (o + 1)  rfl  (by omega) (by omega) (by rw [sumZ_s (by omega)]; first | (rw [bZ_1 (by unfold KY; omega)]; omega) | (rw [bZ_0 (by unfold KY; omega)]; omega)))
  exact lp1 _ 0 0  rfl  (by omega) (by omega) rfl
set_option maxHeartbeats 400000 in
theorem zp_X5_downsLikedMore {ad : mA} {dd : Nat} {h : mH} {Q : mQ} {y : Nat} {g : Int → Int} (hk : mak h y) (HF : isF h (y + 1) g) (HI : fiT h y g)  (u : Int) (u_r : -2147483648 ≤ u ∧ u < 2147483648) (d : Int) (d_r : -2147483648 ≤ d ∧ d < 2147483648) (p1 : 0 ≤ d ∧ d < nd g) (p2 : 0 ≤ u ∧ u < nu g) (kq : Q (some (.int (zI (urN g u d)))) h) : mCal TB0 ad (dd + 1) M_X5_downsLikedMore [.ref y, .int (zI u), .int (zI d)] h 0 0 Q := by
  refine ⟨Nat.le_of_ble_eq_true rfl, ?_⟩
  show mEv TB0 ad M_X5_downsLikedMore (dd + 1) (0, 0) (mCal TB0 ad (dd + 0)) (fun v h' z => z.1 = 0 ∧ Q v h') 0 [some (.ref y), some (.int (zI u)), some (.int (zI d)), none, none, none] [] h (0, 0)
  have w1 := isF_n HF
  have W := isF_w HF
  refine z_iconst (0) dX5_downsLikedMore_0 rfl ?_
  refine e_istore_n (L' := [_, _, _, _, _, _]) dX5_downsLikedMore_1 (Nat.le_of_ble_eq_true rfl) rfl ?_
  refine z_iconst (0) dX5_downsLikedMore_2 rfl ?_
  refine e_istore (L' := [_, _, _, _, _, _]) dX5_downsLikedMore_3 (Nat.le_of_ble_eq_true rfl) rfl ?_
  have lp1 : ∀ (n1 : Nat) (t o : Int), (nd g - o).toNat = n1 → (0 ≤ o ∧ o ≤ nd g) → (0 ≤ t ∧ t ≤ o) → (t = sumZ (fun o => bZ (KY g d u < KY g o u)) o.toNat) → mEv TB0 ad M_X5_downsLikedMore (dd + 1) (0, 0) (mCal TB0 ad (dd + 0)) (fun v h' z => z.1 = 0 ∧ Q v h') 5 [some (.ref y), some (.int (zI u)), some (.int (zI d)), some (.int (zI t)), some (.int (zI o)), none] [] h (0, 0) := by
    intro n1
    induction n1 using Nat.strongRecOn with
    | ind n1 ih1 =>
    intro t o  hn1  I1 I2 I3
    refine e_iload dX5_downsLikedMore_5 rfl ?_
    refine e_aload_n dX5_downsLikedMore_7 rfl ?_
    refine e_get (.ref (y + 1)) dX5_downsLikedMore_8 tf_5_12 (congrArg Prod.fst (ma_s0 hk)) (congrArg va_rf (ma_r0_0 hk)) ?_
    refine e_get (.ref (y + 2)) dX5_downsLikedMore_11 tf_5_53 (congrArg Prod.fst (ma_s1 hk)) (congrArg va_rf (ma_r1_0 hk)) ?_
    refine z_get (nd g) dX5_downsLikedMore_14 tf_5_57 (congrArg Prod.fst (ma_s2 hk)) (Or.inl rfl) (isF_nd HF) ?_
    have y2 := isF_n HF
    refine z_icmp_ge 76 dX5_downsLikedMore_17 rfl ⟨by omega, by omega⟩ ⟨by omega, by omega⟩ (fun c3 => ?_) (fun c3 => ?_)
    · skip
      refine e_iload_n dX5_downsLikedMore_76 rfl ?_
      refine z_iret dX5_downsLikedMore_77 rfl ⟨rfl, ?_⟩
      refine z_q kq ?_
      rw [I3, show o = nd g by omega]; rfl
    · skip
      refine e_aload_n dX5_downsLikedMore_20 rfl ?_
      refine e_get (.ref (y + 39)) dX5_downsLikedMore_21 tf_5_40 (congrArg Prod.fst (ma_s0 hk)) (congrArg va_rf (ma_r0_8 hk)) ?_
      refine e_iload dX5_downsLikedMore_24 rfl ?_
      refine z_bipush (7) dX5_downsLikedMore_26 rfl ?_
      refine z_imul dX5_downsLikedMore_28 ?_
      refine e_iload_n dX5_downsLikedMore_29 rfl ?_
      refine z_iadd dX5_downsLikedMore_30 ?_
      refine z_ild (fitZ g o u) dX5_downsLikedMore_31 (ma_s39 hk) (by decide) (by omega) (by omega) (HI o u (by omega) (by omega) (by omega) (by omega)) ?_
      have y4 := fitZ_b g o u
      refine e_aload_n dX5_downsLikedMore_32 rfl ?_
      refine e_get (.ref (y + 39)) dX5_downsLikedMore_33 tf_5_40 (congrArg Prod.fst (ma_s0 hk)) (congrArg va_rf (ma_r0_8 hk)) ?_
      refine e_iload_n dX5_downsLikedMore_36 rfl ?_
      refine z_bipush (7) dX5_downsLikedMore_37 rfl ?_
      refine z_imul dX5_downsLikedMore_39 ?_
      refine e_iload_n dX5_downsLikedMore_40 rfl ?_
      refine z_iadd dX5_downsLikedMore_41 ?_
      refine z_ild (fitZ g d u) dX5_downsLikedMore_42 (ma_s39 hk) (by decide) (by omega) (by omega) (HI d u (by omega) (by omega) (by omega) (by omega)) ?_
      have y5 := fitZ_b g d u
      refine z_isub dX5_downsLikedMore_43 ?_
      refine e_istore (L' := [_, _, _, _, _, _]) dX5_downsLikedMore_44 (Nat.le_of_ble_eq_true rfl) rfl ?_
      refine e_iload_n dX5_downsLikedMore_46 rfl ?_
      refine e_iload dX5_downsLikedMore_47 rfl ?_
      refine z_if_gt 63 dX5_downsLikedMore_49 rfl ⟨by omega, by omega⟩ (fun c6 => ?_) (fun c6 => ?_)
      · skip
        refine z_iconst (1) dX5_downsLikedMore_63 rfl ?_
        refine e_goto 68 dX5_downsLikedMore_64 rfl ?_
        refine z_iadd dX5_downsLikedMore_68 ?_
        refine e_istore_n (L' := [_, _, _, _, _, _]) dX5_downsLikedMore_69 (Nat.le_of_ble_eq_true rfl) rfl ?_
        refine z_iinc (L' := [_, _, _, _, _, _]) dX5_downsLikedMore_70 rfl rfl ?_
        refine e_goto 5 dX5_downsLikedMore_73 rfl ?_
        exact mEv_wk (by exact ⟨Or.inr rfl, Or.inr rfl, Or.inr rfl, Or.inr rfl, Or.inr rfl, Or.inl rfl, trivial⟩) (ih1 _ (by omega) (t + 1) (o + 1)  rfl  (by omega) (by omega) (by rw [sumZ_s (by omega)]; first | (rw [bZ_1 (by unfold KY; omega)]; omega) | (rw [bZ_0 (by unfold KY; omega)]; omega)))
      · skip
        refine e_iload dX5_downsLikedMore_52 rfl ?_
        refine z_if_ne 67 dX5_downsLikedMore_54 rfl ⟨by omega, by omega⟩ (fun c7 => ?_) (fun c7 => ?_)
        · skip
          refine z_iconst (0) dX5_downsLikedMore_67 rfl ?_
          refine z_iadd dX5_downsLikedMore_68 ?_
          refine e_istore_n (L' := [_, _, _, _, _, _]) dX5_downsLikedMore_69 (Nat.le_of_ble_eq_true rfl) rfl ?_
          refine z_iinc (L' := [_, _, _, _, _, _]) dX5_downsLikedMore_70 rfl rfl ?_
          refine e_goto 5 dX5_downsLikedMore_73 rfl ?_
          exact mEv_wk (by exact ⟨Or.inr rfl, Or.inr rfl, Or.inr rfl, Or.inr rfl, Or.inr rfl, Or.inl rfl, trivial⟩) (ih1 _ (by omega) (t + 0) (o + 1)  rfl  (by omega) (by omega) (by rw [sumZ_s (by omega)]; first | (rw [bZ_1 (by unfold KY; omega)]; omega) | (rw [bZ_0 (by unfold KY; omega)]; omega)))
        · skip
          refine e_iload dX5_downsLikedMore_57 rfl ?_
          refine e_iload_n dX5_downsLikedMore_59 rfl ?_
          refine z_icmp_ge 67 dX5_downsLikedMore_60 rfl ⟨by omega, by omega⟩ ⟨by omega, by omega⟩ (fun c8 => ?_) (fun c8 => ?_)
          · skip
            refine z_iconst (0) dX5_downsLikedMore_67 rfl ?_
            refine z_iadd dX5_downsLikedMore_68 ?_
            refine e_istore_n (L' := [_, _, _, _, _, _]) dX5_downsLikedMore_69 (Nat.le_of_ble_eq_true rfl) rfl ?_
            refine z_iinc (L' := [_, _, _, _, _, _]) dX5_downsLikedMore_70 rfl rfl ?_
            refine e_goto 5 dX5_downsLikedMore_73 rfl ?_
            exact mEv_wk (by exact ⟨Or.inr rfl, Or.inr rfl, Or.inr rfl, Or.inr rfl, Or.inr rfl, Or.inl rfl, trivial⟩) (ih1 _ (by omega) (t + 0) (o + 1)  rfl  (by omega) (by omega) (by rw [sumZ_s (by omega)]; first | (rw [bZ_1 (by unfold KY; omega)]; omega) | (rw [bZ_0 (by unfold KY; omega)]; omega)))
          · skip
            refine z_iconst (1) dX5_downsLikedMore_63 rfl ?_
            refine e_goto 68 dX5_downsLikedMore_64 rfl ?_
            refine z_iadd dX5_downsLikedMore_68 ?_
            refine e_istore_n (L' := [_, _, _, _, _, _]) dX5_downsLikedMore_69 (Nat.le_of_ble_eq_true rfl) rfl ?_
            refine z_iinc (L' := [_, _, _, _, _, _]) dX5_downsLikedMore_70 rfl rfl ?_
            refine e_goto 5 dX5_downsLikedMore_73 rfl ?_
            exact mEv_wk (by exact ⟨Or.inr rfl, Or.inr rfl, Or.inr rfl, Or.inr rfl, Or.inr rfl, Or.inl rfl, trivial⟩) (ih1 _ (by omega) (t + 1) (o + 1)  rfl  (by omega) (by omega) (by rw [sumZ_s (by omega)]; first | (rw [bZ_1 (by unfold KY; omega)]; omega) | (rw [bZ_0 (by unfold KY; omega)]; omega)))
  exact lp1 _ 0 0  rfl  (by omega) (by omega) rfl
