/-! IDLE -/
theorem dX11_idle_0 : decode cX11_idle 0 = .ok (.aload_n 0, 1) := by decide +kernel
theorem dX11_idle_1 : decode cX11_idle 1 = .ok (.getfield 10, 3) := by decide +kernel
theorem dX11_idle_4 : decode cX11_idle 4 = .ok (.iload_n 1, 1) := by decide +kernel
theorem dX11_idle_5 : decode cX11_idle 5 = .ok (.invokevirtual 94, 3) := by decide +kernel
theorem dX11_idle_8 : decode cX11_idle 8 = .ok (.astore 4, 2) := by decide +kernel
theorem dX11_idle_10 : decode cX11_idle 10 = .ok (.aload 4, 2) := by decide +kernel
theorem dX11_idle_12 : decode cX11_idle 12 = .ok (.ifnull 14, 3) := by decide +kernel
theorem dX11_idle_15 : decode cX11_idle 15 = .ok (.aload 4, 2) := by decide +kernel
theorem dX11_idle_17 : decode cX11_idle 17 = .ok (.iload_n 2, 1) := by decide +kernel
theorem dX11_idle_18 : decode cX11_idle 18 = .ok (.iload_n 3, 1) := by decide +kernel
theorem dX11_idle_19 : decode cX11_idle 19 = .ok (.iconst 0, 1) := by decide +kernel
theorem dX11_idle_20 : decode cX11_idle 20 = .ok (.invokevirtual 259, 3) := by decide +kernel
theorem dX11_idle_23 : decode cX11_idle 23 = .ok (.ifCond .ne 5, 3) := by decide +kernel
theorem dX11_idle_26 : decode cX11_idle 26 = .ok (.iconst (-1), 1) := by decide +kernel
theorem dX11_idle_27 : decode cX11_idle 27 = .ok (.ireturn, 1) := by decide +kernel
theorem dX11_idle_28 : decode cX11_idle 28 = .ok (.iconst 0, 1) := by decide +kernel
theorem dX11_idle_29 : decode cX11_idle 29 = .ok (.istore 5, 2) := by decide +kernel
theorem dX11_idle_31 : decode cX11_idle 31 = .ok (.iload 5, 2) := by decide +kernel
theorem dX11_idle_33 : decode cX11_idle 33 = .ok (.bipush 99, 2) := by decide +kernel
theorem dX11_idle_35 : decode cX11_idle 35 = .ok (.if_icmp .ge 23, 3) := by decide +kernel
theorem dX11_idle_38 : decode cX11_idle 38 = .ok (.aload 4, 2) := by decide +kernel
theorem dX11_idle_40 : decode cX11_idle 40 = .ok (.iload_n 2, 1) := by decide +kernel
theorem dX11_idle_41 : decode cX11_idle 41 = .ok (.iload_n 3, 1) := by decide +kernel
theorem dX11_idle_42 : decode cX11_idle 42 = .ok (.iload 5, 2) := by decide +kernel
theorem dX11_idle_44 : decode cX11_idle 44 = .ok (.iconst 1, 1) := by decide +kernel
theorem dX11_idle_45 : decode cX11_idle 45 = .ok (.iadd, 1) := by decide +kernel
theorem dX11_idle_46 : decode cX11_idle 46 = .ok (.invokevirtual 259, 3) := by decide +kernel
theorem dX11_idle_49 : decode cX11_idle 49 = .ok (.ifCond .eq 9, 3) := by decide +kernel
theorem dX11_idle_52 : decode cX11_idle 52 = .ok (.iinc 5 1, 3) := by decide +kernel
theorem dX11_idle_55 : decode cX11_idle 55 = .ok (.goto (-24), 3) := by decide +kernel
theorem dX11_idle_58 : decode cX11_idle 58 = .ok (.iload 5, 2) := by decide +kernel
theorem dX11_idle_60 : decode cX11_idle 60 = .ok (.ireturn, 1) := by decide +kernel
theorem dX12_idle_0 : decode cX12_idle 0 = .ok (.aload_n 0, 1) := by decide +kernel
theorem dX12_idle_1 : decode cX12_idle 1 = .ok (.iconst 0, 1) := by decide +kernel
theorem dX12_idle_2 : decode cX12_idle 2 = .ok (.putfield 103, 3) := by decide +kernel
theorem dX12_idle_5 : decode cX12_idle 5 = .ok (.aload_n 0, 1) := by decide +kernel
theorem dX12_idle_6 : decode cX12_idle 6 = .ok (.iload_n 1, 1) := by decide +kernel
theorem dX12_idle_7 : decode cX12_idle 7 = .ok (.invokevirtual 292, 3) := by decide +kernel
theorem dX12_idle_10 : decode cX12_idle 10 = .ok (.ifCond .eq 28, 3) := by decide +kernel
theorem dX12_idle_13 : decode cX12_idle 13 = .ok (.aload_n 0, 1) := by decide +kernel
theorem dX12_idle_14 : decode cX12_idle 14 = .ok (.iload_n 2, 1) := by decide +kernel
theorem dX12_idle_15 : decode cX12_idle 15 = .ok (.invokevirtual 295, 3) := by decide +kernel
theorem dX12_idle_18 : decode cX12_idle 18 = .ok (.ifCond .eq 20, 3) := by decide +kernel
theorem dX12_idle_21 : decode cX12_idle 21 = .ok (.aload_n 0, 1) := by decide +kernel
theorem dX12_idle_22 : decode cX12_idle 22 = .ok (.iload_n 3, 1) := by decide +kernel
theorem dX12_idle_23 : decode cX12_idle 23 = .ok (.invokevirtual 331, 3) := by decide +kernel
theorem dX12_idle_26 : decode cX12_idle 26 = .ok (.ifCond .eq 12, 3) := by decide +kernel
theorem dX12_idle_29 : decode cX12_idle 29 = .ok (.aload_n 0, 1) := by decide +kernel
theorem dX12_idle_30 : decode cX12_idle 30 = .ok (.iload_n 2, 1) := by decide +kernel
theorem dX12_idle_31 : decode cX12_idle 31 = .ok (.iload_n 3, 1) := by decide +kernel
theorem dX12_idle_32 : decode cX12_idle 32 = .ok (.invokevirtual 334, 3) := by decide +kernel
theorem dX12_idle_35 : decode cX12_idle 35 = .ok (.ifCond .ne 5, 3) := by decide +kernel
theorem dX12_idle_38 : decode cX12_idle 38 = .ok (.iconst (-1), 1) := by decide +kernel
theorem dX12_idle_39 : decode cX12_idle 39 = .ok (.ireturn, 1) := by decide +kernel
theorem dX12_idle_40 : decode cX12_idle 40 = .ok (.iconst 0, 1) := by decide +kernel
theorem dX12_idle_41 : decode cX12_idle 41 = .ok (.istore 4, 2) := by decide +kernel
theorem dX12_idle_43 : decode cX12_idle 43 = .ok (.iload 4, 2) := by decide +kernel
theorem dX12_idle_45 : decode cX12_idle 45 = .ok (.bipush 99, 2) := by decide +kernel
theorem dX12_idle_47 : decode cX12_idle 47 = .ok (.if_icmp .ge 39, 3) := by decide +kernel
theorem dX12_idle_50 : decode cX12_idle 50 = .ok (.aload_n 0, 1) := by decide +kernel
theorem dX12_idle_51 : decode cX12_idle 51 = .ok (.iload_n 2, 1) := by decide +kernel
theorem dX12_idle_52 : decode cX12_idle 52 = .ok (.invokevirtual 337, 3) := by decide +kernel
theorem dX12_idle_55 : decode cX12_idle 55 = .ok (.aload_n 0, 1) := by decide +kernel
theorem dX12_idle_56 : decode cX12_idle 56 = .ok (.bipush 6, 2) := by decide +kernel
theorem dX12_idle_58 : decode cX12_idle 58 = .ok (.aload_n 0, 1) := by decide +kernel
theorem dX12_idle_59 : decode cX12_idle 59 = .ok (.getfield 53, 3) := by decide +kernel
theorem dX12_idle_62 : decode cX12_idle 62 = .ok (.iload_n 2, 1) := by decide +kernel
theorem dX12_idle_63 : decode cX12_idle 63 = .ok (.iaload, 1) := by decide +kernel
theorem dX12_idle_64 : decode cX12_idle 64 = .ok (.iadd, 1) := by decide +kernel
theorem dX12_idle_65 : decode cX12_idle 65 = .ok (.invokevirtual 337, 3) := by decide +kernel
theorem dX12_idle_68 : decode cX12_idle 68 = .ok (.aload_n 0, 1) := by decide +kernel
theorem dX12_idle_69 : decode cX12_idle 69 = .ok (.iload_n 2, 1) := by decide +kernel
theorem dX12_idle_70 : decode cX12_idle 70 = .ok (.iload_n 3, 1) := by decide +kernel
theorem dX12_idle_71 : decode cX12_idle 71 = .ok (.invokevirtual 334, 3) := by decide +kernel
theorem dX12_idle_74 : decode cX12_idle 74 = .ok (.ifCond .ne 6, 3) := by decide +kernel
theorem dX12_idle_77 : decode cX12_idle 77 = .ok (.iload 4, 2) := by decide +kernel
theorem dX12_idle_79 : decode cX12_idle 79 = .ok (.ireturn, 1) := by decide +kernel
theorem dX12_idle_80 : decode cX12_idle 80 = .ok (.iinc 4 1, 3) := by decide +kernel
theorem dX12_idle_83 : decode cX12_idle 83 = .ok (.goto (-40), 3) := by decide +kernel
theorem dX12_idle_86 : decode cX12_idle 86 = .ok (.iload 4, 2) := by decide +kernel
theorem dX12_idle_88 : decode cX12_idle 88 = .ok (.ireturn, 1) := by decide +kernel
set_option maxRecDepth 20000 in
theorem tm_11_259 : tMet TB0 11 259 = some (0, M_X2_cutsWorn) := rfl
/-! IDLE -/
def wnG (g : Int → Int) (d n : Int) : Int → Int := setG (setG g (15 + d) (max 0 (de g d - n))) (45 + dm g d) (max 0 (ue g (dm g d) - n))
theorem wnG_0 {g : Int → Int} {d : Int} (h1 : 0 ≤ de g d) (h2 : 0 ≤ ue g (dm g d)) (hd : d < 6) (hm : 0 ≤ dm g d) : wnG g d 0 = g := by
  funext i
  unfold wnG setG
  by_cases c : i = 45 + dm g d
  · rw [if_pos c, c]
    have : ue g (dm g d) = g (45 + dm g d) := rfl
    omega
  · rw [if_neg c]
    by_cases c2 : i = 15 + d
    · rw [if_pos c2, c2]
      have : de g d = g (15 + d) := rfl
      omega
    · rw [if_neg c2]
theorem wn_de {g : Int → Int} {d n : Int} (hd : d < 6) (hm : 0 ≤ dm g d) : de (wnG g d n) d = max 0 (de g d - n) := by
  unfold wnG
  rw [de_set, if_neg (by omega), de_set, if_pos rfl]
theorem wn_ue {g : Int → Int} {d n : Int} : ue (wnG g d n) (dm g d) = max 0 (ue g (dm g d) - n) := by
  unfold wnG
  rw [ue_set, if_pos rfl]
theorem wn_o {g : Int → Int} {d n i : Int} (h1 : i ≠ 15 + d) (h2 : i ≠ 45 + dm g d) : wnG g d n i = g i := by
  unfold wnG setG
  rw [if_neg h2, if_neg h1]
theorem wnG_s {g : Int → Int} {d n : Int} (hd : 0 ≤ d ∧ d < 6) (hm : 0 ≤ dm g d ∧ dm g d < 6) (hn : 0 ≤ n) : setG (setG (wnG g d n) (15 + d) (max 0 (max 0 (de g d - n) - 1))) (45 + dm g d) (max 0 (max 0 (ue g (dm g d) - n) - 1)) = wnG g d (n + 1) := by
  funext i
  by_cases c : i = 45 + dm g d
  · unfold wnG setG; rw [if_pos c, if_pos c]; omega
  · by_cases c2 : i = 15 + d
    · unfold wnG setG; rw [if_neg c, if_pos c2, if_neg c, if_pos c2]; omega
    · rw [wn_o c2 c]; unfold setG; rw [if_neg c, if_neg c2]; exact wn_o c2 c
theorem cutW_wn {g : Int → Int} {d c n : Int} (hd : 0 ≤ d ∧ d < nd g) (h6 : nd g ≤ 6) (hm : 0 ≤ dm g d ∧ dm g d < 6) (hn : 0 ≤ n) : cutW (wnG g d n) d c 0 ↔ cutW g d c n := by
  have e0 : nd (wnG g d n) = nd g := wn_o (by omega) (by omega)
  have e2 : nc (wnG g d n) = nc g := wn_o (by omega) (by omega)
  have e3 : dm (wnG g d n) d = dm g d := wn_o (by omega) (by omega)
  have u1 : upv (wnG g d n) d = dm g d := (upv_in hd.1 (by rw [e0]; exact hd.2)).trans e3
  have u2 : upv g d = dm g d := upv_in hd.1 hd.2
  have f1 : fitZ (wnG g d n) d (dm g d) = fitZ g d (dm g d) := by
    unfold fitZ
    rw [show ds (wnG g d n) d = ds g d from wn_o (by omega) (by omega), show us (wnG g d n) (dm g d) = us g (dm g d) from wn_o (by omega) (by omega), show dh (wnG g d n) d = dh g d from wn_o (by omega) (by omega), show uh (wnG g d n) (dm g d) = uh g (dm g d) from wn_o (by omega) (by omega), show dl (wnG g d n) d = dl g d from wn_o (by omega) (by omega), show ul (wnG g d n) (dm g d) = ul g (dm g d) from wn_o (by omega) (by omega)]
  have p1 : powW (wnG g d n) d (dm g d) 0 = powW g d (dm g d) n := by
    unfold powW
    rw [f1, wn_de (by omega) hm.1, wn_ue]; omega
  unfold cutW
  rw [u1, u2, e2, p1]
  by_cases z : 0 ≤ c ∧ c < nc g
  · rw [show ha (wnG g d n) c = ha g c from wn_o (by omega) (by omega)]
  · exact ⟨fun q => absurd q.2.1 z, fun q => absurd q.2.1 z⟩
def idR (g : Int → Int) (d c v : Int) : Prop := (¬ cutW g d c 0 ∧ v = -1) ∨ (cutW g d c 0 ∧ (0 ≤ v ∧ v ≤ 99) ∧ (∀ w, 0 ≤ w → w ≤ v → cutW g d c w) ∧ (v = 99 ∨ ¬ cutW g d c (v + 1)))
theorem idR_u {g : Int → Int} {d c v v' : Int} (a : idR g d c v) (b : idR g d c v') : v = v' := by
  rcases a with ⟨a1, a2⟩ | ⟨a1, a2, a3, a4⟩ <;> rcases b with ⟨b1, b2⟩ | ⟨b1, b2, b3, b4⟩
  · rw [a2, b2]
  · exact absurd b1 a1
  · exact absurd a1 b1
  · rcases Int.lt_trichotomy v v' with q | q | q
    · rcases a4 with z | z
      · omega
      · exact absurd (b3 (v + 1) (by omega) (by omega)) z
    · exact q
    · rcases b4 with z | z
      · omega
      · exact absurd (a3 (v' + 1) (by omega) (by omega)) z
theorem idA {P : Int → Prop} {i : Int} (h : ∀ w, 0 ≤ w → w ≤ i → P w) (q : P (i + 1)) : ∀ w, 0 ≤ w → w ≤ i + 1 → P w := fun w a c => by
  by_cases z : w ≤ i
  · exact h w a z
  · rw [show w = i + 1 by omega]; exact q
set_option maxHeartbeats 400000 in
theorem zp_X11_idle_in {ad : mA} {dd : Nat} {h : mH} {Q : mQ} {x : Nat} {σ : Sg} (hk : bk h x) (HX : clsT h (x + 1) σ)  (f : Int) (f_r : -2147483648 ≤ f ∧ f < 2147483648) (d : Int) (d_r : -2147483648 ≤ d ∧ d < 2147483648) (c : Int) (c_r : -2147483648 ≤ c ∧ c < 2147483648) (p1 : 0 ≤ f) (p2 : f < cn σ 0) (kq : ∀ v : Int, (idR (sG σ f) d c v) → Q (some (.int (zI v))) h) : mCal TB0 ad (dd + 5) M_X11_idle [.ref x, .int (zI f), .int (zI d), .int (zI c)] h 0 0 Q := by
  refine ⟨Nat.le_of_ble_eq_true rfl, ?_⟩
  show mEv TB0 ad M_X11_idle (dd + 5) (0, 0) (mCal TB0 ad (dd + 4)) (fun v h' z => z.1 = 0 ∧ Q v h') 0 [some (.ref x), some (.int (zI f)), some (.int (zI d)), some (.int (zI c)), none, none] [] h (0, 0)
  have w1 := wS_n (clsT_w HX)
  refine e_aload_n dX11_idle_0 rfl ?_
  refine e_get (.ref (x + 1)) dX11_idle_1 tf_11_10 (congrArg Prod.fst (bk_s0 hk)) (congrArg va_rf (bk_r0_0 hk)) ?_
  refine e_iload_n dX11_idle_4 rfl ?_
  refine e_callV [.int _] dX11_idle_5 tm_11_94 rfl (Nat.le_of_ble_eq_true rfl) (congrArg Prod.fst (bk_s1 hk)) (Nat.le_of_ble_eq_true rfl) (Nat.le_refl _) (Nat.le_refl _) rfl (zp_X8_forgeAt_in (bk_td1 hk) HX f ⟨by omega, by omega⟩ (by omega) (by omega) ?_)
  have k1 := fAt_k (bk_td1 hk) f
  have H2 := clsT_F HX (show 0 ≤ f by omega) (by omega)
  have y3 := fAt_b (x + 1) f
  refine e_astore (L' := [_, _, _, _, _, _]) dX11_idle_8 (Nat.le_of_ble_eq_true rfl) rfl ?_
  refine e_aload dX11_idle_10 rfl ?_
  refine e_ifnull 26 dX11_idle_12 rfl ?_
  refine e_aload dX11_idle_15 rfl ?_
  refine e_iload_n dX11_idle_17 rfl ?_
  refine e_iload_n dX11_idle_18 rfl ?_
  refine z_iconst (0) dX11_idle_19 rfl ?_
  refine e_callV [.int _, .int _, .int _] dX11_idle_20 tm_11_259 rfl (Nat.le_of_ble_eq_true rfl) (congrArg Prod.fst (fg_s0 k1)) (Nat.le_of_ble_eq_true rfl) (Nat.le_refl _) (Nat.le_refl _) rfl (zp_X2_cutsWorn k1 H2 d ⟨by omega, by omega⟩ c ⟨by omega, by omega⟩ 0 ⟨by omega, by omega⟩ (by omega) (by omega) ?_)
  refine z_ifb_ne 28 dX11_idle_23 rfl (fun c4 => ?_) (fun c4 => ?_)
  · skip
    refine z_iconst (0) dX11_idle_28 rfl ?_
    refine e_istore (L' := [_, _, _, _, _, _]) dX11_idle_29 (Nat.le_of_ble_eq_true rfl) rfl ?_
    have lp5 : ∀ (n5 : Nat) (i : Int), (99 - i).toNat = n5 → (0 ≤ i) → (i ≤ 99) → (∀ w, 0 ≤ w → w ≤ i → cutW (sG σ f) d c w) → mEv TB0 ad M_X11_idle (dd + 5) (0, 0) (mCal TB0 ad (dd + 4)) (fun v h' z => z.1 = 0 ∧ Q v h') 31 [some (.ref x), some (.int (zI f)), some (.int (zI d)), some (.int (zI c)), some (.ref (fAt (x + 1) f)), some (.int (zI i))] [] h (0, 0) := by
      intro n5
      induction n5 using Nat.strongRecOn with
      | ind n5 ih5 =>
      intro i  hn5  I1 I2 I3
      refine e_iload dX11_idle_31 rfl ?_
      refine z_bipush (99) dX11_idle_33 rfl ?_
      refine z_icmp_ge 58 dX11_idle_35 rfl ⟨by omega, by omega⟩ ⟨by omega, by omega⟩ (fun c6 => ?_) (fun c6 => ?_)
      · skip
        refine e_iload dX11_idle_58 rfl ?_
        refine z_iret dX11_idle_60 rfl ⟨rfl, ?_⟩
        refine kq _ ?_
        first | exact Or.inl ⟨by assumption, rfl⟩ | exact Or.inr ⟨I3 0 (by omega) (by omega), by omega, I3, Or.inl (by omega)⟩ | exact Or.inr ⟨I3 0 (by omega) (by omega), by omega, I3, Or.inr (by assumption)⟩
      · skip
        refine e_aload dX11_idle_38 rfl ?_
        refine e_iload_n dX11_idle_40 rfl ?_
        refine e_iload_n dX11_idle_41 rfl ?_
        refine e_iload dX11_idle_42 rfl ?_
        refine z_iconst (1) dX11_idle_44 rfl ?_
        refine z_iadd dX11_idle_45 ?_
        refine e_callV [.int _, .int _, .int _] dX11_idle_46 tm_11_259 rfl (Nat.le_of_ble_eq_true rfl) (congrArg Prod.fst (fg_s0 k1)) (Nat.le_of_ble_eq_true rfl) (Nat.le_refl _) (Nat.le_refl _) rfl (zp_X2_cutsWorn k1 H2 d ⟨by omega, by omega⟩ c ⟨by omega, by omega⟩ (i + 1) ⟨by omega, by omega⟩ (by omega) (by omega) ?_)
        refine z_ifb_eq 58 dX11_idle_49 rfl (fun c7 => ?_) (fun c7 => ?_)
        · skip
          refine e_iload dX11_idle_58 rfl ?_
          refine z_iret dX11_idle_60 rfl ⟨rfl, ?_⟩
          refine kq _ ?_
          first | exact Or.inl ⟨by assumption, rfl⟩ | exact Or.inr ⟨I3 0 (by omega) (by omega), by omega, I3, Or.inl (by omega)⟩ | exact Or.inr ⟨I3 0 (by omega) (by omega), by omega, I3, Or.inr (by assumption)⟩
        · skip
          refine z_iinc (L' := [_, _, _, _, _, _]) dX11_idle_52 rfl rfl ?_
          refine e_goto 31 dX11_idle_55 rfl ?_
          exact ih5 _ (by omega) (i + 1)  rfl  (by omega) (by omega) (idA (P := cutW (sG σ f) d c) I3 (by assumption))
    exact lp5 _ 0  rfl  (by omega) (by omega) (fun w a z => by rw [show w = 0 by omega]; assumption)
  · skip
    refine z_iconst (-1) dX11_idle_26 rfl ?_
    refine z_iret dX11_idle_27 rfl ⟨rfl, ?_⟩
    refine kq _ ?_
    first | exact Or.inl ⟨by assumption, rfl⟩ | exact Or.inr ⟨I3 0 (by omega) (by omega), by omega, I3, Or.inl (by omega)⟩ | exact Or.inr ⟨I3 0 (by omega) (by omega), by omega, I3, Or.inr (by assumption)⟩
set_option maxHeartbeats 400000 in
theorem zp_X11_idle_out {ad : mA} {dd : Nat} {h : mH} {Q : mQ} {x : Nat} {σ : Sg} (hk : bk h x) (HX : clsT h (x + 1) σ)  (f : Int) (f_r : -2147483648 ≤ f ∧ f < 2147483648) (d : Int) (d_r : -2147483648 ≤ d ∧ d < 2147483648) (c : Int) (c_r : -2147483648 ≤ c ∧ c < 2147483648) (p1 : ¬ (0 ≤ f ∧ f < cn σ 0)) (kq : Q (some (.int (zI (-1)))) h) : mCal TB0 ad (dd + 5) M_X11_idle [.ref x, .int (zI f), .int (zI d), .int (zI c)] h 0 0 Q := by
  refine ⟨Nat.le_of_ble_eq_true rfl, ?_⟩
  show mEv TB0 ad M_X11_idle (dd + 5) (0, 0) (mCal TB0 ad (dd + 4)) (fun v h' z => z.1 = 0 ∧ Q v h') 0 [some (.ref x), some (.int (zI f)), some (.int (zI d)), some (.int (zI c)), none, none] [] h (0, 0)
  have w1 := wS_n (clsT_w HX)
  refine e_aload_n dX11_idle_0 rfl ?_
  refine e_get (.ref (x + 1)) dX11_idle_1 tf_11_10 (congrArg Prod.fst (bk_s0 hk)) (congrArg va_rf (bk_r0_0 hk)) ?_
  refine e_iload_n dX11_idle_4 rfl ?_
  refine e_callV [.int _] dX11_idle_5 tm_11_94 rfl (Nat.le_of_ble_eq_true rfl) (congrArg Prod.fst (bk_s1 hk)) (Nat.le_of_ble_eq_true rfl) (Nat.le_refl _) (Nat.le_refl _) rfl (zp_X8_forgeAt_out (bk_td1 hk) HX f ⟨by omega, by omega⟩ (by omega) ?_)
  refine e_astoreN (L' := [_, _, _, _, _, _]) dX11_idle_8 (Nat.le_of_ble_eq_true rfl) rfl ?_
  refine e_aloadN dX11_idle_10 rfl ?_
  refine e_ifnullN 26 dX11_idle_12 rfl ?_
  refine z_iconst (-1) dX11_idle_26 rfl ?_
  refine z_iret dX11_idle_27 rfl ⟨rfl, ?_⟩
  refine z_q kq ?_
  rfl
set_option maxHeartbeats 3000000 in
theorem zp_X12_idle_in {ad : mA} {dd : Nat} {h : mH} {Q : mQ} {m : Nat} {σ : Sg} (hk : rk h m) (HR : refT h m 0 σ)  (f : Int) (f_r : -2147483648 ≤ f ∧ f < 2147483648) (d : Int) (d_r : -2147483648 ≤ d ∧ d < 2147483648) (c : Int) (c_r : -2147483648 ≤ c ∧ c < 2147483648) (p1 : 0 ≤ f) (p2 : f < cn σ 0) (kq : ∀ v : Int, (idR (sG σ f) d c v) → ∀ h1, frm (fun a i => a = m ∨ (m + 9 ≤ a ∧ a < m + 30)) h h1 → Q (some (.int (zI v))) h1) : mCal TB0 ad (dd + 5) M_X12_idle [.ref m, .int (zI f), .int (zI d), .int (zI c)] h 0 0 Q := by
  refine ⟨Nat.le_of_ble_eq_true rfl, ?_⟩
  show mEv TB0 ad M_X12_idle (dd + 5) (0, 0) (mCal TB0 ad (dd + 4)) (fun v h' z => z.1 = 0 ∧ Q v h') 0 [some (.ref m), some (.int (zI f)), some (.int (zI d)), some (.int (zI c)), none] [] h (0, 0)
  have FR0 : frm (fun a i => a = m ∨ (m + 9 ≤ a ∧ a < m + 30)) h h := frm_0 h
  have w1 := wS_n (refT_w HR)
  refine e_aload_n dX12_idle_0 rfl ?_
  refine z_iconst (0) dX12_idle_1 rfl ?_
  refine z_put dX12_idle_2 tf_12_103 (rk_s hk) rfl (Or.inl rfl) (fun h1 e2 => ?_)
  have f3 := frm_1 e2
  have k4 := rk_q (frm_s f3) hk
  have H5 := refT_c f3 (fun a k q1 q2 => by omega) HR
  have FR6 := frm_t FR0 (frm_m (S' := (fun a i => a = m ∨ (m + 9 ≤ a ∧ a < m + 30))) f3 (fun a k q => by omega))
  refine e_aload_n dX12_idle_5 rfl ?_
  refine e_iload_n dX12_idle_6 rfl ?_
  refine e_callV [.int _] dX12_idle_7 tm_12_292 rfl (Nat.le_of_ble_eq_true rfl) (rk_s k4) (Nat.le_of_ble_eq_true rfl) (Nat.le_refl _) (Nat.le_refl _) rfl (zp_X12_hand_in k4 H5 f ⟨by omega, by omega⟩ (by omega) (by omega) (fun  h7 f8 p9 p10 p11 p12 => ?_))
  have k13 := rk_q (frm_s f8) k4
  have H14 := refT_c f8 (fun a k q1 q2 => by omega) H5
  have FR15 := frm_t FR6 (frm_m (S' := (fun a i => a = m ∨ (m + 9 ≤ a ∧ a < m + 30))) f8 (fun a k q => by omega))
  have w5 := rB_n p9
  have w6 := rC_n p11
  refine z_ifb_eq 38 dX12_idle_10 rfl (fun c16 => ?_) (fun c16 => ?_)
  · exact absurd trivial c16
  · skip
    refine e_aload_n dX12_idle_13 rfl ?_
    refine e_iload_n dX12_idle_14 rfl ?_
    refine e_callV [.int _] dX12_idle_15 tm_12_295 rfl (Nat.le_of_ble_eq_true rfl) (rk_s k13) (Nat.le_of_ble_eq_true rfl) (Nat.le_refl _) (Nat.le_refl _) rfl (zp_X12_isDown k13 p9 d ⟨by omega, by omega⟩ ?_)
    refine z_ifb_eq 38 dX12_idle_18 rfl (fun c17 => ?_) (fun c17 => ?_)
    · skip
      refine z_iconst (-1) dX12_idle_38 rfl ?_
      refine z_iret dX12_idle_39 rfl ⟨rfl, ?_⟩
      refine kq _ ?_ _ FR15
      first | exact Or.inl ⟨by assumption, rfl⟩ | exact Or.inl ⟨(by rintro ⟨z1, z2, z3⟩; have z4 := upv_s ((refT_w HR).2.2.1 f p1 p2) d; omega), rfl⟩ | exact Or.inr ⟨C0, by omega, I3, Or.inl (by omega)⟩ | exact Or.inr ⟨C0, by omega, I3, Or.inr (fun z => absurd ((cutW_wn (by omega) (by omega) (by omega) (by omega)).mpr z) (by assumption))⟩
    · skip
      refine e_aload_n dX12_idle_21 rfl ?_
      refine e_iload_n dX12_idle_22 rfl ?_
      refine e_callV [.int _] dX12_idle_23 tm_12_331 rfl (Nat.le_of_ble_eq_true rfl) (rk_s k13) (Nat.le_of_ble_eq_true rfl) (Nat.le_refl _) (Nat.le_refl _) rfl (zp_X12_isCloth k13 p11 c ⟨by omega, by omega⟩ ?_)
      refine z_ifb_eq 38 dX12_idle_26 rfl (fun c18 => ?_) (fun c18 => ?_)
      · skip
        refine z_iconst (-1) dX12_idle_38 rfl ?_
        refine z_iret dX12_idle_39 rfl ⟨rfl, ?_⟩
        refine kq _ ?_ _ FR15
        first | exact Or.inl ⟨by assumption, rfl⟩ | exact Or.inl ⟨(by rintro ⟨z1, z2, z3⟩; have z4 := upv_s ((refT_w HR).2.2.1 f p1 p2) d; omega), rfl⟩ | exact Or.inr ⟨C0, by omega, I3, Or.inl (by omega)⟩ | exact Or.inr ⟨C0, by omega, I3, Or.inr (fun z => absurd ((cutW_wn (by omega) (by omega) (by omega) (by omega)).mpr z) (by assumption))⟩
      · skip
        refine e_aload_n dX12_idle_29 rfl ?_
        refine e_iload_n dX12_idle_30 rfl ?_
        refine e_iload_n dX12_idle_31 rfl ?_
        refine e_callV [.int _, .int _] dX12_idle_32 tm_12_334 rfl (Nat.le_of_ble_eq_true rfl) (rk_s k13) (Nat.le_of_ble_eq_true rfl) (Nat.le_refl _) (Nat.le_refl _) rfl (zp_X12_cuts k13 p9 p10 p11 d ⟨by omega, by omega⟩ c ⟨by omega, by omega⟩ (by omega) (by omega) ?_)
        refine z_ifb_ne 40 dX12_idle_35 rfl (fun c19 => ?_) (fun c19 => ?_)
        · skip
          have C0 : cutW (sG σ f) d c 0 := by assumption
          have u1 := upv_in (g := (sG σ f)) (d := d) (by omega) (by omega)
          have C1 := C0.1
          have mm := wM_d (rM_w p10) (d := d) (by omega) (by omega)
          have q1 := wB_d (rB_w p9) (d := d) (by omega) (by omega)
          have q2 := wB_u (rB_w p9) (u := dm (sG σ f) d) (by omega) (by omega)
          have w0 := wnG_0 (g := (sG σ f)) (d := d) (by omega) (by omega) (by omega) (by omega)
          refine z_iconst (0) dX12_idle_40 rfl ?_
          refine e_istore (L' := [_, _, _, _, _]) dX12_idle_41 (Nat.le_of_ble_eq_true rfl) rfl ?_
          have lp20 : ∀ (n20 : Nat) (i : Int) (h20 : mH), (99 - i).toNat = n20 → (rk h20 m) → (refT h20 m 0 σ) → (rK h20 m f) → (frm (fun a i => a = m ∨ (m + 9 ≤ a ∧ a < m + 30)) h h20) → (0 ≤ i) → (i ≤ 99) → (∀ w, 0 ≤ w → w ≤ i → cutW (sG σ f) d c w) → (rB h20 m (wnG (sG σ f) d i)) → (rM h20 m (wnG (sG σ f) d i)) → (rC h20 m (wnG (sG σ f) d i)) → mEv TB0 ad M_X12_idle (dd + 5) (0, 0) (mCal TB0 ad (dd + 4)) (fun v h' z => z.1 = 0 ∧ Q v h') 43 [some (.ref m), some (.int (zI f)), some (.int (zI d)), some (.int (zI c)), some (.int (zI i))] [] h20 (0, 0) := by
            intro n20
            induction n20 using Nat.strongRecOn with
            | ind n20 ih20 =>
            intro i h20 hn20 k21 H22 H23 FR24 I1 I2 I3 I4 I5 I6
            refine e_iload dX12_idle_43 rfl ?_
            refine z_bipush (99) dX12_idle_45 rfl ?_
            refine z_icmp_ge 86 dX12_idle_47 rfl ⟨by omega, by omega⟩ ⟨by omega, by omega⟩ (fun c25 => ?_) (fun c25 => ?_)
            · skip
              refine e_iload dX12_idle_86 rfl ?_
              refine z_iret dX12_idle_88 rfl ⟨rfl, ?_⟩
              refine kq _ ?_ _ FR24
              first | exact Or.inl ⟨by assumption, rfl⟩ | exact Or.inl ⟨(by rintro ⟨z1, z2, z3⟩; have z4 := upv_s ((refT_w HR).2.2.1 f p1 p2) d; omega), rfl⟩ | exact Or.inr ⟨C0, by omega, I3, Or.inl (by omega)⟩ | exact Or.inr ⟨C0, by omega, I3, Or.inr (fun z => absurd ((cutW_wn (by omega) (by omega) (by omega) (by omega)).mpr z) (by assumption))⟩
            · skip
              skip
              skip
              skip
              have n3 : nd (wnG (sG σ f) d i) = nd (sG σ f) := wn_o (by omega) (by omega)
              have n4 : nu (wnG (sG σ f) d i) = nu (sG σ f) := wn_o (by omega) (by omega)
              have n7 : dm (wnG (sG σ f) d i) d = dm (sG σ f) d := wn_o (by omega) (by omega)
              refine e_aload_n dX12_idle_50 rfl ?_
              refine e_iload_n dX12_idle_51 rfl ?_
              skip
              refine e_callV [.int _] dX12_idle_52 tm_12_337 rfl (Nat.le_of_ble_eq_true rfl) (rk_s k21) (Nat.le_of_ble_eq_true rfl) (Nat.le_refl _) (Nat.le_refl _) rfl (zp_X12_blunts k21 d ⟨by omega, by omega⟩ (by omega) (fun  h26 f27 p28 => ?_))
              have k29 := rk_q (frm_s f27) k21
              have H30 := refT_c f27 (fun a k q1 q2 => by omega) H22
              have H31 := rK_c f27 (fun a k q1 q2 => by omega) H23
              have H32 := rM_c f27 (fun a k q => by omega) I5
              have H33 := rC_c f27 (fun a k q => by omega) I6
              have FR34 := frm_t FR24 (frm_m (S' := (fun a i => a = m ∨ (m + 9 ≤ a ∧ a < m + 30))) f27 (fun a k q => by omega))
              have z1 := wn_de (g := (sG σ f)) (d := d) (n := i) (by omega) (by omega)
              have NB1 : rB h26 m (setG (wnG (sG σ f) d i) (15 + d) (max 0 (max 0 (de (sG σ f) d - i) - 1))) := rB_fde I4 f27 (by rw [p28 (by rw [(rB_de I4 (i := d) (by omega) (by omega)), z1]; omega), (rB_de I4 (i := d) (by omega) (by omega)), z1]) (by omega) (by omega) (by omega) (by omega)
              have n1 : nd (setG (wnG (sG σ f) d i) (15 + d) (max 0 (max 0 (de (sG σ f) d - i) - 1))) = nd (wnG (sG σ f) d i) := nd_set (by omega)
              have n2 : nu (setG (wnG (sG σ f) d i) (15 + d) (max 0 (max 0 (de (sG σ f) d - i) - 1))) = nu (wnG (sG σ f) d i) := nu_set (by omega)
              have z2 : ue (setG (wnG (sG σ f) d i) (15 + d) (max 0 (max 0 (de (sG σ f) d - i) - 1))) (dm (sG σ f) d) = max 0 (ue (sG σ f) (dm (sG σ f) d) - i) := by rw [ue_set, if_neg (by omega)]; exact wn_ue
              refine e_aload_n dX12_idle_55 rfl ?_
              refine z_bipush (6) dX12_idle_56 rfl ?_
              refine e_aload_n dX12_idle_58 rfl ?_
              refine e_get (.ref (m + 15)) dX12_idle_59 tf_12_53 (rk_s k29) (congrArg va_rf (rk_r15 k29)) ?_
              refine e_iload_n dX12_idle_62 rfl ?_
              refine z_ild (dm (sG σ f) d) dX12_idle_63 (rk_a15 k29) (by decide) (by omega) (by omega) ((((rM_c f27 (fun a k q => by omega) I5) : rM _ m (wnG (sG σ f) d i)).2 d (by omega) (by omega)).1.trans n7) ?_
              refine z_iadd dX12_idle_64 ?_
              skip
              refine e_callV [.int _] dX12_idle_65 tm_12_337 rfl (Nat.le_of_ble_eq_true rfl) (rk_s k29) (Nat.le_of_ble_eq_true rfl) (Nat.le_refl _) (Nat.le_refl _) rfl (zp_X12_blunts k29 (6 + (dm (sG σ f) d)) ⟨by omega, by omega⟩ (by omega) (fun  h35 f36 p37 => ?_))
              have k38 := rk_q (frm_s f36) k29
              have H39 := refT_c f36 (fun a k q1 q2 => by omega) H30
              have H40 := rK_c f36 (fun a k q1 q2 => by omega) H31
              have FR41 := frm_t FR34 (frm_m (S' := (fun a i => a = m ∨ (m + 9 ≤ a ∧ a < m + 30))) f36 (fun a k q => by omega))
              have eW : (setG (setG (wnG (sG σ f) d i) (15 + d) (max 0 (max 0 (de (sG σ f) d - i) - 1))) (45 + dm (sG σ f) d) (max 0 (max 0 (ue (sG σ f) (dm (sG σ f) d) - i) - 1))) = (wnG (sG σ f) d (i + 1)) := wnG_s (by omega) (by omega) (by omega)
              have NB2 : rB h35 m (wnG (sG σ f) d (i + 1)) := by rw [← eW]; exact rB_fue NB1 f36 (by rw [p37 (by rw [(rB_ue NB1 (i := dm (sG σ f) d) (by omega) (by omega)), z2]; omega), (rB_ue NB1 (i := dm (sG σ f) d) (by omega) (by omega)), z2]) (by omega) (by omega) (by omega) (by omega)
              have NM2 : rM h35 m (wnG (sG σ f) d (i + 1)) := by rw [← eW]; exact rM_setue (rM_setde (rM_c f36 (fun a k q => by omega) (rM_c f27 (fun a k q => by omega) I5)) (by omega) (by omega)) (by omega) (by omega)
              have NC2 : rC h35 m (wnG (sG σ f) d (i + 1)) := by rw [← eW]; exact rC_setue (rC_setde (rC_c f36 (fun a k q => by omega) (rC_c f27 (fun a k q => by omega) I6)) (by omega) (by omega)) (by omega) (by omega)
              have n5 : nd (wnG (sG σ f) d (i + 1)) = nd (sG σ f) := wn_o (by omega) (by omega)
              have n6 : nc (wnG (sG σ f) d (i + 1)) = nc (sG σ f) := wn_o (by omega) (by omega)
              refine e_aload_n dX12_idle_68 rfl ?_
              refine e_iload_n dX12_idle_69 rfl ?_
              refine e_iload_n dX12_idle_70 rfl ?_
              refine e_callV [.int _, .int _] dX12_idle_71 tm_12_334 rfl (Nat.le_of_ble_eq_true rfl) (rk_s k38) (Nat.le_of_ble_eq_true rfl) (Nat.le_refl _) (Nat.le_refl _) rfl (zp_X12_cuts k38 NB2 NM2 NC2 d ⟨by omega, by omega⟩ c ⟨by omega, by omega⟩ (by omega) (by omega) ?_)
              refine z_ifb_ne 80 dX12_idle_74 rfl (fun c42 => ?_) (fun c42 => ?_)
              · skip
                refine z_iinc (L' := [_, _, _, _, _]) dX12_idle_80 rfl rfl ?_
                refine e_goto 43 dX12_idle_83 rfl ?_
                exact ih20 _ (by omega) (i + 1) h35 rfl k38 H39 H40 FR41 (by omega) (by omega) (idA (P := cutW (sG σ f) d c) I3 ((cutW_wn (by omega) (by omega) (by omega) (by omega)).mp (by assumption))) NB2 NM2 NC2
              · skip
                refine e_iload dX12_idle_77 rfl ?_
                refine z_iret dX12_idle_79 rfl ⟨rfl, ?_⟩
                refine kq _ ?_ _ FR41
                first | exact Or.inl ⟨by assumption, rfl⟩ | exact Or.inl ⟨(by rintro ⟨z1, z2, z3⟩; have z4 := upv_s ((refT_w HR).2.2.1 f p1 p2) d; omega), rfl⟩ | exact Or.inr ⟨C0, by omega, I3, Or.inl (by omega)⟩ | exact Or.inr ⟨C0, by omega, I3, Or.inr (fun z => absurd ((cutW_wn (by omega) (by omega) (by omega) (by omega)).mpr z) (by assumption))⟩
          exact lp20 _ 0 h7 rfl k13 H14 p12 FR15 (by omega) (by omega) (fun w a z => by rw [show w = 0 by omega]; exact C0) (by rw [w0]; exact p9) (by rw [w0]; exact p10) (by rw [w0]; exact p11)
        · skip
          refine z_iconst (-1) dX12_idle_38 rfl ?_
          refine z_iret dX12_idle_39 rfl ⟨rfl, ?_⟩
          refine kq _ ?_ _ FR15
          first | exact Or.inl ⟨by assumption, rfl⟩ | exact Or.inl ⟨(by rintro ⟨z1, z2, z3⟩; have z4 := upv_s ((refT_w HR).2.2.1 f p1 p2) d; omega), rfl⟩ | exact Or.inr ⟨C0, by omega, I3, Or.inl (by omega)⟩ | exact Or.inr ⟨C0, by omega, I3, Or.inr (fun z => absurd ((cutW_wn (by omega) (by omega) (by omega) (by omega)).mpr z) (by assumption))⟩
set_option maxHeartbeats 400000 in
theorem zp_X12_idle_out {ad : mA} {dd : Nat} {h : mH} {Q : mQ} {m : Nat} {σ : Sg} (hk : rk h m) (HR : refT h m 0 σ)  (f : Int) (f_r : -2147483648 ≤ f ∧ f < 2147483648) (d : Int) (d_r : -2147483648 ≤ d ∧ d < 2147483648) (c : Int) (c_r : -2147483648 ≤ c ∧ c < 2147483648) (p1 : ¬ (0 ≤ f ∧ f < cn σ 0)) (kq : ∀ h1, frm (fun a i => a = m ∨ (m + 9 ≤ a ∧ a < m + 30)) h h1 → Q (some (.int (zI (-1)))) h1) : mCal TB0 ad (dd + 5) M_X12_idle [.ref m, .int (zI f), .int (zI d), .int (zI c)] h 0 0 Q := by
  refine ⟨Nat.le_of_ble_eq_true rfl, ?_⟩
  show mEv TB0 ad M_X12_idle (dd + 5) (0, 0) (mCal TB0 ad (dd + 4)) (fun v h' z => z.1 = 0 ∧ Q v h') 0 [some (.ref m), some (.int (zI f)), some (.int (zI d)), some (.int (zI c)), none] [] h (0, 0)
  have FR0 : frm (fun a i => a = m ∨ (m + 9 ≤ a ∧ a < m + 30)) h h := frm_0 h
  have w1 := wS_n (refT_w HR)
  refine e_aload_n dX12_idle_0 rfl ?_
  refine z_iconst (0) dX12_idle_1 rfl ?_
  refine z_put dX12_idle_2 tf_12_103 (rk_s hk) rfl (Or.inl rfl) (fun h1 e2 => ?_)
  have f3 := frm_1 e2
  have k4 := rk_q (frm_s f3) hk
  have H5 := refT_c f3 (fun a k q1 q2 => by omega) HR
  have FR6 := frm_t FR0 (frm_m (S' := (fun a i => a = m ∨ (m + 9 ≤ a ∧ a < m + 30))) f3 (fun a k q => by omega))
  refine e_aload_n dX12_idle_5 rfl ?_
  refine e_iload_n dX12_idle_6 rfl ?_
  refine e_callV [.int _] dX12_idle_7 tm_12_292 rfl (Nat.le_of_ble_eq_true rfl) (rk_s k4) (Nat.le_of_ble_eq_true rfl) (Nat.le_refl _) (Nat.le_refl _) rfl (zp_X12_hand_out k4 H5 f ⟨by omega, by omega⟩ (by omega) ?_)
  refine z_ifb_eq 38 dX12_idle_10 rfl (fun c7 => ?_) (fun c7 => ?_)
  · skip
    refine z_iconst (-1) dX12_idle_38 rfl ?_
    refine z_iret dX12_idle_39 rfl ⟨rfl, ?_⟩
    exact kq _ FR6
  · exfalso; exact c7
theorem op21 {ad : mA} {B : Nat} : op_21 ad B (Inv B) := by
  intro a b c 
  rw [← zI_toInt a]
  rw [← zI_toInt b]
  rw [← zI_toInt c]
  have ra := in_of a
  generalize a.toInt = a at *
  have rb := in_of b
  generalize b.toInt = b at *
  have rc := in_of c
  generalize c.toInt = c at *
  refine opq_I (ansF a (-1) (fun g r => idR g b c r)) (ansF_u (fun g r r' x y => idR_u x y)) (fun h σ hk HX Q kq => ?_) (fun h σ hr HR Q kq => ?_)
  · by_cases q : 0 ≤ a ∧ a < cn σ 0
    · exact zp_X11_idle_in hk HX a ra b rb c rc q.1 q.2 (fun v p => kq v _ (frm_0 h) (Or.inl ⟨q.1, q.2, p⟩))
    · exact zp_X11_idle_out hk HX a ra b rb c rc q (kq _ _ (frm_0 h) (Or.inr ⟨q, rfl⟩))
  · by_cases q : 0 ≤ a ∧ a < cn σ 0
    · exact zp_X12_idle_in hr HR a ra b rb c rc q.1 q.2 (fun v p h1 f => kq v h1 f (Or.inl ⟨q.1, q.2, p⟩))
    · exact zp_X12_idle_out hr HR a ra b rb c rc q (fun h1 f => kq _ _ f (Or.inr ⟨q, rfl⟩))
