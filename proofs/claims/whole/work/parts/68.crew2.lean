/-! CREW of the reference -/
theorem dX12_areCrew_0 : decode cX12_areCrew 0 = .ok (.iconst 0, 1) := by decide +kernel
theorem dX12_areCrew_1 : decode cX12_areCrew 1 = .ok (.istore_n 2, 1) := by decide +kernel
theorem dX12_areCrew_2 : decode cX12_areCrew 2 = .ok (.iload_n 2, 1) := by decide +kernel
theorem dX12_areCrew_3 : decode cX12_areCrew 3 = .ok (.aload_n 0, 1) := by decide +kernel
theorem dX12_areCrew_4 : decode cX12_areCrew 4 = .ok (.getfield 277, 3) := by decide +kernel
theorem dX12_areCrew_7 : decode cX12_areCrew 7 = .ok (.if_icmp .ge 64, 3) := by decide +kernel
theorem dX12_areCrew_10 : decode cX12_areCrew 10 = .ok (.iconst 0, 1) := by decide +kernel
theorem dX12_areCrew_11 : decode cX12_areCrew 11 = .ok (.istore_n 3, 1) := by decide +kernel
theorem dX12_areCrew_12 : decode cX12_areCrew 12 = .ok (.iconst 0, 1) := by decide +kernel
theorem dX12_areCrew_13 : decode cX12_areCrew 13 = .ok (.istore 4, 2) := by decide +kernel
theorem dX12_areCrew_15 : decode cX12_areCrew 15 = .ok (.iload 4, 2) := by decide +kernel
theorem dX12_areCrew_17 : decode cX12_areCrew 17 = .ok (.aload_n 0, 1) := by decide +kernel
theorem dX12_areCrew_18 : decode cX12_areCrew 18 = .ok (.getfield 271, 3) := by decide +kernel
theorem dX12_areCrew_21 : decode cX12_areCrew 21 = .ok (.if_icmp .ge 38, 3) := by decide +kernel
theorem dX12_areCrew_24 : decode cX12_areCrew 24 = .ok (.iload_n 3, 1) := by decide +kernel
theorem dX12_areCrew_25 : decode cX12_areCrew 25 = .ok (.ifCond .ne 22, 3) := by decide +kernel
theorem dX12_areCrew_28 : decode cX12_areCrew 28 = .ok (.iload_n 1, 1) := by decide +kernel
theorem dX12_areCrew_29 : decode cX12_areCrew 29 = .ok (.iload 4, 2) := by decide +kernel
theorem dX12_areCrew_31 : decode cX12_areCrew 31 = .ok (.invokestatic 107, 3) := by decide +kernel
theorem dX12_areCrew_34 : decode cX12_areCrew 34 = .ok (.ifCond .eq 17, 3) := by decide +kernel
theorem dX12_areCrew_37 : decode cX12_areCrew 37 = .ok (.aload_n 0, 1) := by decide +kernel
theorem dX12_areCrew_38 : decode cX12_areCrew 38 = .ok (.iload 4, 2) := by decide +kernel
theorem dX12_areCrew_40 : decode cX12_areCrew 40 = .ok (.iload_n 2, 1) := by decide +kernel
theorem dX12_areCrew_41 : decode cX12_areCrew 41 = .ok (.invokevirtual 334, 3) := by decide +kernel
theorem dX12_areCrew_44 : decode cX12_areCrew 44 = .ok (.ifCond .eq 7, 3) := by decide +kernel
theorem dX12_areCrew_47 : decode cX12_areCrew 47 = .ok (.iconst 1, 1) := by decide +kernel
theorem dX12_areCrew_48 : decode cX12_areCrew 48 = .ok (.goto 4, 3) := by decide +kernel
theorem dX12_areCrew_51 : decode cX12_areCrew 51 = .ok (.iconst 0, 1) := by decide +kernel
theorem dX12_areCrew_52 : decode cX12_areCrew 52 = .ok (.istore_n 3, 1) := by decide +kernel
theorem dX12_areCrew_53 : decode cX12_areCrew 53 = .ok (.iinc 4 1, 3) := by decide +kernel
theorem dX12_areCrew_56 : decode cX12_areCrew 56 = .ok (.goto (-41), 3) := by decide +kernel
theorem dX12_areCrew_59 : decode cX12_areCrew 59 = .ok (.iload_n 3, 1) := by decide +kernel
theorem dX12_areCrew_60 : decode cX12_areCrew 60 = .ok (.ifCond .ne 5, 3) := by decide +kernel
theorem dX12_areCrew_63 : decode cX12_areCrew 63 = .ok (.iconst 0, 1) := by decide +kernel
theorem dX12_areCrew_64 : decode cX12_areCrew 64 = .ok (.ireturn, 1) := by decide +kernel
theorem dX12_areCrew_65 : decode cX12_areCrew 65 = .ok (.iinc 2 1, 3) := by decide +kernel
theorem dX12_areCrew_68 : decode cX12_areCrew 68 = .ok (.goto (-66), 3) := by decide +kernel
theorem dX12_areCrew_71 : decode cX12_areCrew 71 = .ok (.iconst 1, 1) := by decide +kernel
theorem dX12_areCrew_72 : decode cX12_areCrew 72 = .ok (.ireturn, 1) := by decide +kernel
theorem dX12_crew_0 : decode cX12_crew 0 = .ok (.aload_n 0, 1) := by decide +kernel
theorem dX12_crew_1 : decode cX12_crew 1 = .ok (.iconst 0, 1) := by decide +kernel
theorem dX12_crew_2 : decode cX12_crew 2 = .ok (.putfield 103, 3) := by decide +kernel
theorem dX12_crew_5 : decode cX12_crew 5 = .ok (.aload_n 0, 1) := by decide +kernel
theorem dX12_crew_6 : decode cX12_crew 6 = .ok (.iload_n 1, 1) := by decide +kernel
theorem dX12_crew_7 : decode cX12_crew 7 = .ok (.invokevirtual 292, 3) := by decide +kernel
theorem dX12_crew_10 : decode cX12_crew 10 = .ok (.ifCond .ne 5, 3) := by decide +kernel
theorem dX12_crew_13 : decode cX12_crew 13 = .ok (.iconst (-1), 1) := by decide +kernel
theorem dX12_crew_14 : decode cX12_crew 14 = .ok (.ireturn, 1) := by decide +kernel
theorem dX12_crew_15 : decode cX12_crew 15 = .ok (.iconst (-1), 1) := by decide +kernel
theorem dX12_crew_16 : decode cX12_crew 16 = .ok (.istore_n 2, 1) := by decide +kernel
theorem dX12_crew_17 : decode cX12_crew 17 = .ok (.iconst 0, 1) := by decide +kernel
theorem dX12_crew_18 : decode cX12_crew 18 = .ok (.istore_n 3, 1) := by decide +kernel
theorem dX12_crew_19 : decode cX12_crew 19 = .ok (.iload_n 3, 1) := by decide +kernel
theorem dX12_crew_20 : decode cX12_crew 20 = .ok (.bipush 64, 2) := by decide +kernel
theorem dX12_crew_22 : decode cX12_crew 22 = .ok (.if_icmp .ge 93, 3) := by decide +kernel
theorem dX12_crew_25 : decode cX12_crew 25 = .ok (.iconst 1, 1) := by decide +kernel
theorem dX12_crew_26 : decode cX12_crew 26 = .ok (.istore 4, 2) := by decide +kernel
theorem dX12_crew_28 : decode cX12_crew 28 = .ok (.iconst 0, 1) := by decide +kernel
theorem dX12_crew_29 : decode cX12_crew 29 = .ok (.istore 5, 2) := by decide +kernel
theorem dX12_crew_31 : decode cX12_crew 31 = .ok (.iload 5, 2) := by decide +kernel
theorem dX12_crew_33 : decode cX12_crew 33 = .ok (.bipush 6, 2) := by decide +kernel
theorem dX12_crew_35 : decode cX12_crew 35 = .ok (.if_icmp .ge 39, 3) := by decide +kernel
theorem dX12_crew_38 : decode cX12_crew 38 = .ok (.iload 4, 2) := by decide +kernel
theorem dX12_crew_40 : decode cX12_crew 40 = .ok (.ifCond .eq 25, 3) := by decide +kernel
theorem dX12_crew_43 : decode cX12_crew 43 = .ok (.iload_n 3, 1) := by decide +kernel
theorem dX12_crew_44 : decode cX12_crew 44 = .ok (.iload 5, 2) := by decide +kernel
theorem dX12_crew_46 : decode cX12_crew 46 = .ok (.invokestatic 107, 3) := by decide +kernel
theorem dX12_crew_49 : decode cX12_crew 49 = .ok (.ifCond .eq 12, 3) := by decide +kernel
theorem dX12_crew_52 : decode cX12_crew 52 = .ok (.aload_n 0, 1) := by decide +kernel
theorem dX12_crew_53 : decode cX12_crew 53 = .ok (.iload 5, 2) := by decide +kernel
theorem dX12_crew_55 : decode cX12_crew 55 = .ok (.invokevirtual 286, 3) := by decide +kernel
theorem dX12_crew_58 : decode cX12_crew 58 = .ok (.ifCond .eq 7, 3) := by decide +kernel
theorem dX12_crew_61 : decode cX12_crew 61 = .ok (.iconst 1, 1) := by decide +kernel
theorem dX12_crew_62 : decode cX12_crew 62 = .ok (.goto 4, 3) := by decide +kernel
theorem dX12_crew_65 : decode cX12_crew 65 = .ok (.iconst 0, 1) := by decide +kernel
theorem dX12_crew_66 : decode cX12_crew 66 = .ok (.istore 4, 2) := by decide +kernel
theorem dX12_crew_68 : decode cX12_crew 68 = .ok (.iinc 5 1, 3) := by decide +kernel
theorem dX12_crew_71 : decode cX12_crew 71 = .ok (.goto (-40), 3) := by decide +kernel
theorem dX12_crew_74 : decode cX12_crew 74 = .ok (.iload 4, 2) := by decide +kernel
theorem dX12_crew_76 : decode cX12_crew 76 = .ok (.ifCond .eq 31, 3) := by decide +kernel
theorem dX12_crew_79 : decode cX12_crew 79 = .ok (.aload_n 0, 1) := by decide +kernel
theorem dX12_crew_80 : decode cX12_crew 80 = .ok (.iload_n 3, 1) := by decide +kernel
theorem dX12_crew_81 : decode cX12_crew 81 = .ok (.invokevirtual 544, 3) := by decide +kernel
theorem dX12_crew_84 : decode cX12_crew 84 = .ok (.ifCond .eq 23, 3) := by decide +kernel
theorem dX12_crew_87 : decode cX12_crew 87 = .ok (.iload_n 2, 1) := by decide +kernel
theorem dX12_crew_88 : decode cX12_crew 88 = .ok (.iconst (-1), 1) := by decide +kernel
theorem dX12_crew_89 : decode cX12_crew 89 = .ok (.if_icmp .eq 14, 3) := by decide +kernel
theorem dX12_crew_92 : decode cX12_crew 92 = .ok (.iload_n 3, 1) := by decide +kernel
theorem dX12_crew_93 : decode cX12_crew 93 = .ok (.invokestatic 547, 3) := by decide +kernel
theorem dX12_crew_96 : decode cX12_crew 96 = .ok (.iload_n 2, 1) := by decide +kernel
theorem dX12_crew_97 : decode cX12_crew 97 = .ok (.invokestatic 547, 3) := by decide +kernel
theorem dX12_crew_100 : decode cX12_crew 100 = .ok (.if_icmp .ge 7, 3) := by decide +kernel
theorem dX12_crew_103 : decode cX12_crew 103 = .ok (.iload_n 3, 1) := by decide +kernel
theorem dX12_crew_104 : decode cX12_crew 104 = .ok (.goto 4, 3) := by decide +kernel
theorem dX12_crew_107 : decode cX12_crew 107 = .ok (.iload_n 2, 1) := by decide +kernel
theorem dX12_crew_108 : decode cX12_crew 108 = .ok (.istore_n 2, 1) := by decide +kernel
theorem dX12_crew_109 : decode cX12_crew 109 = .ok (.iinc 3 1, 3) := by decide +kernel
theorem dX12_crew_112 : decode cX12_crew 112 = .ok (.goto (-93), 3) := by decide +kernel
theorem dX12_crew_115 : decode cX12_crew 115 = .ok (.iload_n 2, 1) := by decide +kernel
theorem dX12_crew_116 : decode cX12_crew 116 = .ok (.ireturn, 1) := by decide +kernel
set_option maxRecDepth 20000 in
theorem tm_12_544 : tMet TB0 12 544 = some (0, M_X12_areCrew) := rfl
set_option maxRecDepth 20000 in
theorem tm_12_547 : tMet TB0 12 547 = some (1, M_X12_ones) := rfl
def prB (g : Int → Int) (s i : Int) : Prop := ∀ d, 0 ≤ d → d < i → hasZ s d → dm g d ≠ -1
theorem prB_s {g : Int → Int} {s i : Int} (h : prB g s i) (q : hasZ s i → dm g i ≠ -1) : prB g s (i + 1) := fun d a c z => by
  by_cases y : d < i
  · exact h d a y z
  · rw [show d = i by omega] at z ⊢; exact q z
theorem crB_i {g : Int → Int} {s : Int} : crB g s ↔ prB g s 6 ∧ crA g s := Iff.rfl
def TB (t : Int) (p : Prop) : Prop := (t = 1 ∧ p) ∨ (t = 0 ∧ ¬ p)
theorem TB_1 {t : Int} {p : Prop} (h : TB t p) (q : t ≠ 0) : p := by
  rcases h with z | z
  · exact z.2
  · exact absurd z.1 q
theorem TB_0 {t : Int} {p : Prop} (h : TB t p) (q : t = 0) : ¬ p := by
  rcases h with z | z
  · have := z.1; omega
  · exact z.2
theorem TB_b {t : Int} {p : Prop} (h : TB t p) : t = 0 ∨ t = 1 := by
  rcases h with z | z
  · exact Or.inr z.1
  · exact Or.inl z.1
set_option maxHeartbeats 400000 in
theorem zp_X12_areCrew {ad : mA} {dd : Nat} {h : mH} {Q : mQ} {m : Nat} {g : Int → Int} (hk : rk h m) (HB : rB h m g) (HM : rM h m g) (HC : rC h m g)  (s : Int) (s_r : -2147483648 ≤ s ∧ s < 2147483648) (p1 : 0 ≤ s ∧ s < 64) (kq : ∀ v : Int, (TB v (crA g s)) → Q (some (.int (zI v))) h) : mCal TB0 ad (dd + 5) M_X12_areCrew [.ref m, .int (zI s)] h 0 0 Q := by
  refine ⟨Nat.le_of_ble_eq_true rfl, ?_⟩
  show mEv TB0 ad M_X12_areCrew (dd + 5) (0, 0) (mCal TB0 ad (dd + 4)) (fun v h' z => z.1 = 0 ∧ Q v h') 0 [some (.ref m), some (.int (zI s)), none, none, none] [] h (0, 0)
  have w1 := rB_n HB
  have w2 := rB_nd HB
  have w3 := rB_nu HB
  have wc := rC_n HC
  refine z_iconst (0) dX12_areCrew_0 rfl ?_
  refine e_istore_n (L' := [_, _, _, _, _]) dX12_areCrew_1 (Nat.le_of_ble_eq_true rfl) rfl ?_
  have lp1 : ∀ (n1 : Nat) (c : Int), (nc g - c).toNat = n1 → (0 ≤ c) → (c ≤ nc g) → (∀ k, 0 ≤ k → k < c → exC g s k) → mEv TB0 ad M_X12_areCrew (dd + 5) (0, 0) (mCal TB0 ad (dd + 4)) (fun v h' z => z.1 = 0 ∧ Q v h') 2 [some (.ref m), some (.int (zI s)), some (.int (zI c)), none, none] [] h (0, 0) := by
    intro n1
    induction n1 using Nat.strongRecOn with
    | ind n1 ih1 =>
    intro c  hn1  I1 I2 I3
    refine e_iload_n dX12_areCrew_2 rfl ?_
    refine e_aload_n dX12_areCrew_3 rfl ?_
    refine z_get (nc g) dX12_areCrew_4 tf_12_277 (rk_s hk) (Or.inl rfl) (rC_nc HC) ?_
    have y2 := rC_n HC
    refine z_icmp_ge 71 dX12_areCrew_7 rfl ⟨by omega, by omega⟩ ⟨by omega, by omega⟩ (fun c3 => ?_) (fun c3 => ?_)
    · skip
      refine z_iconst (1) dX12_areCrew_71 rfl ?_
      refine z_bret dX12_areCrew_72 rfl (Or.inr rfl) ⟨rfl, ?_⟩
      refine kq _ ?_
      first | exact Or.inl ⟨rfl, fun k a z => I3 k a (by omega)⟩ | (refine Or.inr ⟨rfl, fun A => ?_⟩; obtain ⟨d, d0, d6, d1, d2⟩ := A c (by omega) (by omega); have dn : d < nd g := Decidable.byContradiction (fun y => absurd (show upv g d = -1 from if_neg (fun x => y x.2)) d2.1); exact (J3.resolve_left (fun q => absurd q.1 (by omega))).2 d d0 (by omega) ⟨d1, d2⟩)
    · skip
      refine z_iconst (0) dX12_areCrew_10 rfl ?_
      refine e_istore_n (L' := [_, _, _, _, _]) dX12_areCrew_11 (Nat.le_of_ble_eq_true rfl) rfl ?_
      refine z_iconst (0) dX12_areCrew_12 rfl ?_
      refine e_istore (L' := [_, _, _, _, _]) dX12_areCrew_13 (Nat.le_of_ble_eq_true rfl) rfl ?_
      have lp4 : ∀ (n4 : Nat) (t i : Int), (nd g - i).toNat = n4 → (0 ≤ i) → (i ≤ nd g) → ((t = 1 ∧ exC g s c) ∨ (t = 0 ∧ ∀ d, 0 ≤ d → d < i → ¬ (hasZ s d ∧ cutW g d c 0))) → mEv TB0 ad M_X12_areCrew (dd + 5) (0, 0) (mCal TB0 ad (dd + 4)) (fun v h' z => z.1 = 0 ∧ Q v h') 15 [some (.ref m), some (.int (zI s)), some (.int (zI c)), some (.int (zI t)), some (.int (zI i))] [] h (0, 0) := by
        intro n4
        induction n4 using Nat.strongRecOn with
        | ind n4 ih4 =>
        intro t i  hn4  J1 J2 J3
        refine e_iload dX12_areCrew_15 rfl ?_
        refine e_aload_n dX12_areCrew_17 rfl ?_
        refine z_get (nd g) dX12_areCrew_18 tf_12_271 (rk_s hk) (Or.inl rfl) (rB_nd HB) ?_
        have y5 := rB_n HB
        refine z_icmp_ge 59 dX12_areCrew_21 rfl ⟨by omega, by omega⟩ ⟨by omega, by omega⟩ (fun c6 => ?_) (fun c6 => ?_)
        · skip
          have tt : t = 1 ∨ t = 0 := by rcases J3 with q | q; exact Or.inl q.1; exact Or.inr q.1
          refine e_iload_n dX12_areCrew_59 rfl ?_
          refine z_if_ne 65 dX12_areCrew_60 rfl ⟨by omega, by omega⟩ (fun c7 => ?_) (fun c7 => ?_)
          · skip
            refine z_iinc (L' := [_, _, _, _, _]) dX12_areCrew_65 rfl rfl ?_
            refine e_goto 2 dX12_areCrew_68 rfl ?_
            exact mEv_wk (by exact ⟨Or.inr rfl, Or.inr rfl, Or.inr rfl, Or.inl rfl, Or.inl rfl, trivial⟩) (ih1 _ (by omega) (c + 1)  rfl  (by omega) (by omega) (fun k a z => by
                      by_cases y : k < c
                      · exact I3 k a y
                      · rw [show k = c by omega]; exact (J3.resolve_right (fun q => absurd q.1 (by omega))).2))
          · skip
            refine z_iconst (0) dX12_areCrew_63 rfl ?_
            refine z_bret dX12_areCrew_64 rfl (Or.inl rfl) ⟨rfl, ?_⟩
            refine kq _ ?_
            first | exact Or.inl ⟨rfl, fun k a z => I3 k a (by omega)⟩ | (refine Or.inr ⟨rfl, fun A => ?_⟩; obtain ⟨d, d0, d6, d1, d2⟩ := A c (by omega) (by omega); have dn : d < nd g := Decidable.byContradiction (fun y => absurd (show upv g d = -1 from if_neg (fun x => y x.2)) d2.1); exact (J3.resolve_left (fun q => absurd q.1 (by omega))).2 d d0 (by omega) ⟨d1, d2⟩)
        · skip
          have tt : t = 1 ∨ t = 0 := by rcases J3 with q | q; exact Or.inl q.1; exact Or.inr q.1
          refine e_iload_n dX12_areCrew_24 rfl ?_
          refine z_if_ne 47 dX12_areCrew_25 rfl ⟨by omega, by omega⟩ (fun c8 => ?_) (fun c8 => ?_)
          · skip
            refine z_iconst (1) dX12_areCrew_47 rfl ?_
            refine e_goto 52 dX12_areCrew_48 rfl ?_
            refine e_istore_n (L' := [_, _, _, _, _]) dX12_areCrew_52 (Nat.le_of_ble_eq_true rfl) rfl ?_
            refine z_iinc (L' := [_, _, _, _, _]) dX12_areCrew_53 rfl rfl ?_
            refine e_goto 15 dX12_areCrew_56 rfl ?_
            exact ih4 _ (by omega) 1 (i + 1)  rfl  (by omega) (by omega) (by first | exact Or.inl ⟨rfl, (J3.resolve_right (fun q => absurd q.1 (by omega))).2⟩ | exact Or.inl ⟨rfl, i, by omega, by omega, by assumption, by assumption⟩ | exact Or.inr ⟨rfl, allS (P := fun d => hasZ s d ∧ cutW g d c 0) (J3.resolve_left (fun q => absurd q.1 (by omega))).2 (by rintro ⟨z1, z2⟩; first | exact absurd z2 (by assumption) | exact absurd z1 (by assumption))⟩)
          · skip
            refine e_iload_n dX12_areCrew_28 rfl ?_
            refine e_iload dX12_areCrew_29 rfl ?_
            refine e_callS [.int _, .int _] dX12_areCrew_31 tm_12_107 rfl (Nat.le_of_ble_eq_true rfl) (Nat.le_refl _) (Nat.le_refl _) rfl (zp_X12_has s ⟨by omega, by omega⟩ i ⟨by omega, by omega⟩ (by omega) (by omega) (by omega) ?_)
            refine z_ifb_eq 51 dX12_areCrew_34 rfl (fun c9 => ?_) (fun c9 => ?_)
            · skip
              refine z_iconst (0) dX12_areCrew_51 rfl ?_
              refine e_istore_n (L' := [_, _, _, _, _]) dX12_areCrew_52 (Nat.le_of_ble_eq_true rfl) rfl ?_
              refine z_iinc (L' := [_, _, _, _, _]) dX12_areCrew_53 rfl rfl ?_
              refine e_goto 15 dX12_areCrew_56 rfl ?_
              exact ih4 _ (by omega) 0 (i + 1)  rfl  (by omega) (by omega) (by first | exact Or.inl ⟨rfl, (J3.resolve_right (fun q => absurd q.1 (by omega))).2⟩ | exact Or.inl ⟨rfl, i, by omega, by omega, by assumption, by assumption⟩ | exact Or.inr ⟨rfl, allS (P := fun d => hasZ s d ∧ cutW g d c 0) (J3.resolve_left (fun q => absurd q.1 (by omega))).2 (by rintro ⟨z1, z2⟩; first | exact absurd z2 (by assumption) | exact absurd z1 (by assumption))⟩)
            · skip
              refine e_aload_n dX12_areCrew_37 rfl ?_
              refine e_iload dX12_areCrew_38 rfl ?_
              refine e_iload_n dX12_areCrew_40 rfl ?_
              refine e_callV [.int _, .int _] dX12_areCrew_41 tm_12_334 rfl (Nat.le_of_ble_eq_true rfl) (rk_s hk) (Nat.le_of_ble_eq_true rfl) (Nat.le_refl _) (Nat.le_refl _) rfl (zp_X12_cuts hk HB HM HC i ⟨by omega, by omega⟩ c ⟨by omega, by omega⟩ (by omega) (by omega) ?_)
              refine z_ifb_eq 51 dX12_areCrew_44 rfl (fun c10 => ?_) (fun c10 => ?_)
              · skip
                refine z_iconst (0) dX12_areCrew_51 rfl ?_
                refine e_istore_n (L' := [_, _, _, _, _]) dX12_areCrew_52 (Nat.le_of_ble_eq_true rfl) rfl ?_
                refine z_iinc (L' := [_, _, _, _, _]) dX12_areCrew_53 rfl rfl ?_
                refine e_goto 15 dX12_areCrew_56 rfl ?_
                exact ih4 _ (by omega) 0 (i + 1)  rfl  (by omega) (by omega) (by first | exact Or.inl ⟨rfl, (J3.resolve_right (fun q => absurd q.1 (by omega))).2⟩ | exact Or.inl ⟨rfl, i, by omega, by omega, by assumption, by assumption⟩ | exact Or.inr ⟨rfl, allS (P := fun d => hasZ s d ∧ cutW g d c 0) (J3.resolve_left (fun q => absurd q.1 (by omega))).2 (by rintro ⟨z1, z2⟩; first | exact absurd z2 (by assumption) | exact absurd z1 (by assumption))⟩)
              · skip
                refine z_iconst (1) dX12_areCrew_47 rfl ?_
                refine e_goto 52 dX12_areCrew_48 rfl ?_
                refine e_istore_n (L' := [_, _, _, _, _]) dX12_areCrew_52 (Nat.le_of_ble_eq_true rfl) rfl ?_
                refine z_iinc (L' := [_, _, _, _, _]) dX12_areCrew_53 rfl rfl ?_
                refine e_goto 15 dX12_areCrew_56 rfl ?_
                exact ih4 _ (by omega) 1 (i + 1)  rfl  (by omega) (by omega) (by first | exact Or.inl ⟨rfl, (J3.resolve_right (fun q => absurd q.1 (by omega))).2⟩ | exact Or.inl ⟨rfl, i, by omega, by omega, by assumption, by assumption⟩ | exact Or.inr ⟨rfl, allS (P := fun d => hasZ s d ∧ cutW g d c 0) (J3.resolve_left (fun q => absurd q.1 (by omega))).2 (by rintro ⟨z1, z2⟩; first | exact absurd z2 (by assumption) | exact absurd z1 (by assumption))⟩)
      exact lp4 _ 0 0  rfl  (by omega) (by omega) (Or.inr ⟨rfl, fun d a z => by omega⟩)
  exact lp1 _ 0  rfl  (by omega) (by omega) (fun k a z => by omega)
set_option maxHeartbeats 400000 in
theorem zp_X12_crew_in {ad : mA} {dd : Nat} {h : mH} {Q : mQ} {m : Nat} {σ : Sg} (hk : rk h m) (HR : refT h m 0 σ)  (f : Int) (f_r : -2147483648 ≤ f ∧ f < 2147483648) (p1 : 0 ≤ f) (p2 : f < cn σ 0) (kq : ∀ v : Int, (fmax (crB (sG σ f)) crS 64 v) → ∀ h1, frm (fun a i => a = m ∨ (m + 9 ≤ a ∧ a < m + 30)) h h1 → Q (some (.int (zI v))) h1) : mCal TB0 ad (dd + 6) M_X12_crew [.ref m, .int (zI f)] h 0 0 Q := by
  refine ⟨Nat.le_of_ble_eq_true rfl, ?_⟩
  show mEv TB0 ad M_X12_crew (dd + 6) (0, 0) (mCal TB0 ad (dd + 5)) (fun v h' z => z.1 = 0 ∧ Q v h') 0 [some (.ref m), some (.int (zI f)), none, none, none, none] [] h (0, 0)
  have FR0 : frm (fun a i => a = m ∨ (m + 9 ≤ a ∧ a < m + 30)) h h := frm_0 h
  have w1 := wS_n (refT_w HR)
  refine e_aload_n dX12_crew_0 rfl ?_
  refine z_iconst (0) dX12_crew_1 rfl ?_
  refine z_put dX12_crew_2 tf_12_103 (rk_s hk) rfl (Or.inl rfl) (fun h1 e2 => ?_)
  have f3 := frm_1 e2
  have k4 := rk_q (frm_s f3) hk
  have H5 := refT_c f3 (fun a k q1 q2 => by omega) HR
  have FR6 := frm_t FR0 (frm_m (S' := (fun a i => a = m ∨ (m + 9 ≤ a ∧ a < m + 30))) f3 (fun a k q => by omega))
  refine e_aload_n dX12_crew_5 rfl ?_
  refine e_iload_n dX12_crew_6 rfl ?_
  refine e_callV [.int _] dX12_crew_7 tm_12_292 rfl (Nat.le_of_ble_eq_true rfl) (rk_s k4) (Nat.le_of_ble_eq_true rfl) (Nat.le_refl _) (Nat.le_refl _) rfl (zp_X12_hand_in k4 H5 f ⟨by omega, by omega⟩ (by omega) (by omega) (fun  h7 f8 p9 p10 p11 p12 => ?_))
  have k13 := rk_q (frm_s f8) k4
  have H14 := refT_c f8 (fun a k q1 q2 => by omega) H5
  have FR15 := frm_t FR6 (frm_m (S' := (fun a i => a = m ∨ (m + 9 ≤ a ∧ a < m + 30))) f8 (fun a k q => by omega))
  have w5 := rB_n p9
  have w6 := rC_n p11
  refine z_ifb_ne 15 dX12_crew_10 rfl (fun c16 => ?_) (fun c16 => ?_)
  · skip
    refine z_iconst (-1) dX12_crew_15 rfl ?_
    refine e_istore_n (L' := [_, _, _, _, _, _]) dX12_crew_16 (Nat.le_of_ble_eq_true rfl) rfl ?_
    refine z_iconst (0) dX12_crew_17 rfl ?_
    refine e_istore_n (L' := [_, _, _, _, _, _]) dX12_crew_18 (Nat.le_of_ble_eq_true rfl) rfl ?_
    have lp17 : ∀ (n17 : Nat) (b i : Int), (64 - i).toNat = n17 → (0 ≤ i) → (i ≤ 64) → (fmax (crB (sG σ f)) crS i b) → mEv TB0 ad M_X12_crew (dd + 6) (0, 0) (mCal TB0 ad (dd + 5)) (fun v h' z => z.1 = 0 ∧ Q v h') 19 [some (.ref m), some (.int (zI f)), some (.int (zI b)), some (.int (zI i)), none, none] [] h7 (0, 0) := by
      intro n17
      induction n17 using Nat.strongRecOn with
      | ind n17 ih17 =>
      intro b i  hn17  I1 I2 I3
      refine e_iload_n dX12_crew_19 rfl ?_
      refine z_bipush (64) dX12_crew_20 rfl ?_
      refine z_icmp_ge 115 dX12_crew_22 rfl ⟨by omega, by omega⟩ ⟨by omega, by omega⟩ (fun c18 => ?_) (fun c18 => ?_)
      · skip
        have qb := fmax_b I3
        refine e_iload_n dX12_crew_115 rfl ?_
        refine z_iret dX12_crew_116 rfl ⟨rfl, ?_⟩
        refine kq _ ?_ _ FR15
        rw [show (64 : Int) = i by omega]; exact I3
      · skip
        have qb := fmax_b I3
        refine z_iconst (1) dX12_crew_25 rfl ?_
        refine e_istore (L' := [_, _, _, _, _, _]) dX12_crew_26 (Nat.le_of_ble_eq_true rfl) rfl ?_
        refine z_iconst (0) dX12_crew_28 rfl ?_
        refine e_istore (L' := [_, _, _, _, _, _]) dX12_crew_29 (Nat.le_of_ble_eq_true rfl) rfl ?_
        have lp19 : ∀ (n19 : Nat) (t j : Int), (6 - j).toNat = n19 → (0 ≤ j) → (j ≤ 6) → ((t = 1 ∧ prB (sG σ f) i j) ∨ (t = 0 ∧ ¬ prB (sG σ f) i 6)) → mEv TB0 ad M_X12_crew (dd + 6) (0, 0) (mCal TB0 ad (dd + 5)) (fun v h' z => z.1 = 0 ∧ Q v h') 31 [some (.ref m), some (.int (zI f)), some (.int (zI b)), some (.int (zI i)), some (.int (zI t)), some (.int (zI j))] [] h7 (0, 0) := by
          intro n19
          induction n19 using Nat.strongRecOn with
          | ind n19 ih19 =>
          intro t j  hn19  J1 J2 J3
          refine e_iload dX12_crew_31 rfl ?_
          refine z_bipush (6) dX12_crew_33 rfl ?_
          refine z_icmp_ge 74 dX12_crew_35 rfl ⟨by omega, by omega⟩ ⟨by omega, by omega⟩ (fun c20 => ?_) (fun c20 => ?_)
          · skip
            have tt : t = 0 ∨ t = 1 := by rcases J3 with q | q; exact Or.inr q.1; exact Or.inl q.1
            refine e_iload dX12_crew_74 rfl ?_
            refine z_if_eq 107 dX12_crew_76 rfl ⟨by omega, by omega⟩ (fun c21 => ?_) (fun c21 => ?_)
            · skip
              refine e_iload_n dX12_crew_107 rfl ?_
              refine e_istore_n (L' := [_, _, _, _, _, _]) dX12_crew_108 (Nat.le_of_ble_eq_true rfl) rfl ?_
              refine z_iinc (L' := [_, _, _, _, _, _]) dX12_crew_109 rfl rfl ?_
              refine e_goto 19 dX12_crew_112 rfl ?_
              exact mEv_wk (by exact ⟨Or.inr rfl, Or.inr rfl, Or.inr rfl, Or.inr rfl, Or.inl rfl, Or.inl rfl, trivial⟩) (ih17 _ (by omega) b (i + 1)  rfl  (by omega) (by omega) (by first | exact fmax_no I3 (fun q => (J3.resolve_left (fun q => absurd q.1 (by omega))).2 q.1) | exact fmax_no I3 (fun q => TB_0 AC (by omega) q.2) | exact fmax_keep I3 (by omega) (by unfold crS; omega) | exact fmax_new I3 (by omega) (crB_i.mpr ⟨by have z := (J3.resolve_right (fun q => absurd q.1 (by omega))).2; rw [show j = 6 by omega] at z; exact z, TB_1 AC (by omega)⟩) (by unfold crS; omega)))
            · skip
              refine e_aload_n dX12_crew_79 rfl ?_
              refine e_iload_n dX12_crew_80 rfl ?_
              refine e_callV [.int _] dX12_crew_81 tm_12_544 rfl (Nat.le_of_ble_eq_true rfl) (rk_s k13) (Nat.le_of_ble_eq_true rfl) (Nat.le_refl _) (Nat.le_refl _) rfl (zp_X12_areCrew k13 p9 p10 p11 i ⟨by omega, by omega⟩ (by omega) (fun v22 p23 => ?_))
              have AC : TB v22 (crA (sG σ f) i) := by assumption
              have ab := TB_b AC
              refine z_if_eq 107 dX12_crew_84 rfl ⟨by omega, by omega⟩ (fun c24 => ?_) (fun c24 => ?_)
              · skip
                refine e_iload_n dX12_crew_107 rfl ?_
                refine e_istore_n (L' := [_, _, _, _, _, _]) dX12_crew_108 (Nat.le_of_ble_eq_true rfl) rfl ?_
                refine z_iinc (L' := [_, _, _, _, _, _]) dX12_crew_109 rfl rfl ?_
                refine e_goto 19 dX12_crew_112 rfl ?_
                exact mEv_wk (by exact ⟨Or.inr rfl, Or.inr rfl, Or.inr rfl, Or.inr rfl, Or.inl rfl, Or.inl rfl, trivial⟩) (ih17 _ (by omega) b (i + 1)  rfl  (by omega) (by omega) (by first | exact fmax_no I3 (fun q => (J3.resolve_left (fun q => absurd q.1 (by omega))).2 q.1) | exact fmax_no I3 (fun q => TB_0 AC (by omega) q.2) | exact fmax_keep I3 (by omega) (by unfold crS; omega) | exact fmax_new I3 (by omega) (crB_i.mpr ⟨by have z := (J3.resolve_right (fun q => absurd q.1 (by omega))).2; rw [show j = 6 by omega] at z; exact z, TB_1 AC (by omega)⟩) (by unfold crS; omega)))
              · skip
                refine e_iload_n dX12_crew_87 rfl ?_
                refine z_iconst (-1) dX12_crew_88 rfl ?_
                refine z_icmp_eq 103 dX12_crew_89 rfl ⟨by omega, by omega⟩ ⟨by omega, by omega⟩ (fun c25 => ?_) (fun c25 => ?_)
                · skip
                  refine e_iload_n dX12_crew_103 rfl ?_
                  refine e_goto 108 dX12_crew_104 rfl ?_
                  refine e_istore_n (L' := [_, _, _, _, _, _]) dX12_crew_108 (Nat.le_of_ble_eq_true rfl) rfl ?_
                  refine z_iinc (L' := [_, _, _, _, _, _]) dX12_crew_109 rfl rfl ?_
                  refine e_goto 19 dX12_crew_112 rfl ?_
                  exact mEv_wk (by exact ⟨Or.inr rfl, Or.inr rfl, Or.inr rfl, Or.inr rfl, Or.inl rfl, Or.inl rfl, trivial⟩) (ih17 _ (by omega) i (i + 1)  rfl  (by omega) (by omega) (by first | exact fmax_no I3 (fun q => (J3.resolve_left (fun q => absurd q.1 (by omega))).2 q.1) | exact fmax_no I3 (fun q => TB_0 AC (by omega) q.2) | exact fmax_keep I3 (by omega) (by unfold crS; omega) | exact fmax_new I3 (by omega) (crB_i.mpr ⟨by have z := (J3.resolve_right (fun q => absurd q.1 (by omega))).2; rw [show j = 6 by omega] at z; exact z, TB_1 AC (by omega)⟩) (by unfold crS; omega)))
                · skip
                  refine e_iload_n dX12_crew_92 rfl ?_
                  refine e_callS [.int _] dX12_crew_93 tm_12_547 rfl (Nat.le_of_ble_eq_true rfl) (Nat.le_refl _) (Nat.le_refl _) rfl (zp_X12_ones i ⟨by omega, by omega⟩ (by omega) ?_)
                  have y26 := onesZ_b i
                  refine e_iload_n dX12_crew_96 rfl ?_
                  refine e_callS [.int _] dX12_crew_97 tm_12_547 rfl (Nat.le_of_ble_eq_true rfl) (Nat.le_refl _) (Nat.le_refl _) rfl (zp_X12_ones b ⟨by omega, by omega⟩ (by omega) ?_)
                  have y27 := onesZ_b b
                  refine z_icmp_ge 107 dX12_crew_100 rfl ⟨by omega, by omega⟩ ⟨by omega, by omega⟩ (fun c28 => ?_) (fun c28 => ?_)
                  · skip
                    refine e_iload_n dX12_crew_107 rfl ?_
                    refine e_istore_n (L' := [_, _, _, _, _, _]) dX12_crew_108 (Nat.le_of_ble_eq_true rfl) rfl ?_
                    refine z_iinc (L' := [_, _, _, _, _, _]) dX12_crew_109 rfl rfl ?_
                    refine e_goto 19 dX12_crew_112 rfl ?_
                    exact mEv_wk (by exact ⟨Or.inr rfl, Or.inr rfl, Or.inr rfl, Or.inr rfl, Or.inl rfl, Or.inl rfl, trivial⟩) (ih17 _ (by omega) b (i + 1)  rfl  (by omega) (by omega) (by first | exact fmax_no I3 (fun q => (J3.resolve_left (fun q => absurd q.1 (by omega))).2 q.1) | exact fmax_no I3 (fun q => TB_0 AC (by omega) q.2) | exact fmax_keep I3 (by omega) (by unfold crS; omega) | exact fmax_new I3 (by omega) (crB_i.mpr ⟨by have z := (J3.resolve_right (fun q => absurd q.1 (by omega))).2; rw [show j = 6 by omega] at z; exact z, TB_1 AC (by omega)⟩) (by unfold crS; omega)))
                  · skip
                    refine e_iload_n dX12_crew_103 rfl ?_
                    refine e_goto 108 dX12_crew_104 rfl ?_
                    refine e_istore_n (L' := [_, _, _, _, _, _]) dX12_crew_108 (Nat.le_of_ble_eq_true rfl) rfl ?_
                    refine z_iinc (L' := [_, _, _, _, _, _]) dX12_crew_109 rfl rfl ?_
                    refine e_goto 19 dX12_crew_112 rfl ?_
                    exact mEv_wk (by exact ⟨Or.inr rfl, Or.inr rfl, Or.inr rfl, Or.inr rfl, Or.inl rfl, Or.inl rfl, trivial⟩) (ih17 _ (by omega) i (i + 1)  rfl  (by omega) (by omega) (by first | exact fmax_no I3 (fun q => (J3.resolve_left (fun q => absurd q.1 (by omega))).2 q.1) | exact fmax_no I3 (fun q => TB_0 AC (by omega) q.2) | exact fmax_keep I3 (by omega) (by unfold crS; omega) | exact fmax_new I3 (by omega) (crB_i.mpr ⟨by have z := (J3.resolve_right (fun q => absurd q.1 (by omega))).2; rw [show j = 6 by omega] at z; exact z, TB_1 AC (by omega)⟩) (by unfold crS; omega)))
          · skip
            have tt : t = 0 ∨ t = 1 := by rcases J3 with q | q; exact Or.inr q.1; exact Or.inl q.1
            refine e_iload dX12_crew_38 rfl ?_
            refine z_if_eq 65 dX12_crew_40 rfl ⟨by omega, by omega⟩ (fun c29 => ?_) (fun c29 => ?_)
            · skip
              refine z_iconst (0) dX12_crew_65 rfl ?_
              refine e_istore (L' := [_, _, _, _, _, _]) dX12_crew_66 (Nat.le_of_ble_eq_true rfl) rfl ?_
              refine z_iinc (L' := [_, _, _, _, _, _]) dX12_crew_68 rfl rfl ?_
              refine e_goto 31 dX12_crew_71 rfl ?_
              exact ih19 _ (by omega) 0 (j + 1)  rfl  (by omega) (by omega) (by first | exact Or.inr ⟨rfl, (J3.resolve_left (fun q => absurd q.1 (by omega))).2⟩ | exact Or.inl ⟨rfl, prB_s (J3.resolve_right (fun q => absurd q.1 (by omega))).2 (fun z => absurd z (by assumption))⟩ | exact Or.inl ⟨rfl, prB_s (J3.resolve_right (fun q => absurd q.1 (by omega))).2 (fun z => by assumption)⟩ | exact Or.inr ⟨rfl, fun A => absurd (A j (by omega) (by omega) (by assumption)) (by assumption)⟩)
            · skip
              refine e_iload_n dX12_crew_43 rfl ?_
              refine e_iload dX12_crew_44 rfl ?_
              refine e_callS [.int _, .int _] dX12_crew_46 tm_12_107 rfl (Nat.le_of_ble_eq_true rfl) (Nat.le_refl _) (Nat.le_refl _) rfl (zp_X12_has i ⟨by omega, by omega⟩ j ⟨by omega, by omega⟩ (by omega) (by omega) (by omega) ?_)
              refine z_ifb_eq 61 dX12_crew_49 rfl (fun c30 => ?_) (fun c30 => ?_)
              · skip
                refine z_iconst (1) dX12_crew_61 rfl ?_
                refine e_goto 66 dX12_crew_62 rfl ?_
                refine e_istore (L' := [_, _, _, _, _, _]) dX12_crew_66 (Nat.le_of_ble_eq_true rfl) rfl ?_
                refine z_iinc (L' := [_, _, _, _, _, _]) dX12_crew_68 rfl rfl ?_
                refine e_goto 31 dX12_crew_71 rfl ?_
                exact ih19 _ (by omega) 1 (j + 1)  rfl  (by omega) (by omega) (by first | exact Or.inr ⟨rfl, (J3.resolve_left (fun q => absurd q.1 (by omega))).2⟩ | exact Or.inl ⟨rfl, prB_s (J3.resolve_right (fun q => absurd q.1 (by omega))).2 (fun z => absurd z (by assumption))⟩ | exact Or.inl ⟨rfl, prB_s (J3.resolve_right (fun q => absurd q.1 (by omega))).2 (fun z => by assumption)⟩ | exact Or.inr ⟨rfl, fun A => absurd (A j (by omega) (by omega) (by assumption)) (by assumption)⟩)
              · skip
                refine e_aload_n dX12_crew_52 rfl ?_
                refine e_iload dX12_crew_53 rfl ?_
                refine e_callV [.int _] dX12_crew_55 tm_12_286 rfl (Nat.le_of_ble_eq_true rfl) (rk_s k13) (Nat.le_of_ble_eq_true rfl) (Nat.le_refl _) (Nat.le_refl _) rfl (zp_X12_isPaired k13 p10 j ⟨by omega, by omega⟩ (by omega) (by omega) ?_)
                have y31 := wM_d (rM_w p10) (show 0 ≤ j by omega) (by omega)
                refine z_ifb_eq 65 dX12_crew_58 rfl (fun c32 => ?_) (fun c32 => ?_)
                · skip
                  refine z_iconst (0) dX12_crew_65 rfl ?_
                  refine e_istore (L' := [_, _, _, _, _, _]) dX12_crew_66 (Nat.le_of_ble_eq_true rfl) rfl ?_
                  refine z_iinc (L' := [_, _, _, _, _, _]) dX12_crew_68 rfl rfl ?_
                  refine e_goto 31 dX12_crew_71 rfl ?_
                  exact ih19 _ (by omega) 0 (j + 1)  rfl  (by omega) (by omega) (by first | exact Or.inr ⟨rfl, (J3.resolve_left (fun q => absurd q.1 (by omega))).2⟩ | exact Or.inl ⟨rfl, prB_s (J3.resolve_right (fun q => absurd q.1 (by omega))).2 (fun z => absurd z (by assumption))⟩ | exact Or.inl ⟨rfl, prB_s (J3.resolve_right (fun q => absurd q.1 (by omega))).2 (fun z => by assumption)⟩ | exact Or.inr ⟨rfl, fun A => absurd (A j (by omega) (by omega) (by assumption)) (by assumption)⟩)
                · skip
                  refine z_iconst (1) dX12_crew_61 rfl ?_
                  refine e_goto 66 dX12_crew_62 rfl ?_
                  refine e_istore (L' := [_, _, _, _, _, _]) dX12_crew_66 (Nat.le_of_ble_eq_true rfl) rfl ?_
                  refine z_iinc (L' := [_, _, _, _, _, _]) dX12_crew_68 rfl rfl ?_
                  refine e_goto 31 dX12_crew_71 rfl ?_
                  exact ih19 _ (by omega) 1 (j + 1)  rfl  (by omega) (by omega) (by first | exact Or.inr ⟨rfl, (J3.resolve_left (fun q => absurd q.1 (by omega))).2⟩ | exact Or.inl ⟨rfl, prB_s (J3.resolve_right (fun q => absurd q.1 (by omega))).2 (fun z => absurd z (by assumption))⟩ | exact Or.inl ⟨rfl, prB_s (J3.resolve_right (fun q => absurd q.1 (by omega))).2 (fun z => by assumption)⟩ | exact Or.inr ⟨rfl, fun A => absurd (A j (by omega) (by omega) (by assumption)) (by assumption)⟩)
        exact lp19 _ 1 0  rfl  (by omega) (by omega) (Or.inl ⟨rfl, fun d a z => by omega⟩)
    exact lp17 _ (-1) 0  rfl  (by omega) (by omega) (fmax_0 _ _ (by omega))
  · exact absurd trivial c16
set_option maxHeartbeats 400000 in
theorem zp_X12_crew_out {ad : mA} {dd : Nat} {h : mH} {Q : mQ} {m : Nat} {σ : Sg} (hk : rk h m) (HR : refT h m 0 σ)  (f : Int) (f_r : -2147483648 ≤ f ∧ f < 2147483648) (p1 : ¬ (0 ≤ f ∧ f < cn σ 0)) (kq : ∀ h1, frm (fun a i => a = m ∨ (m + 9 ≤ a ∧ a < m + 30)) h h1 → Q (some (.int (zI (-1)))) h1) : mCal TB0 ad (dd + 6) M_X12_crew [.ref m, .int (zI f)] h 0 0 Q := by
  refine ⟨Nat.le_of_ble_eq_true rfl, ?_⟩
  show mEv TB0 ad M_X12_crew (dd + 6) (0, 0) (mCal TB0 ad (dd + 5)) (fun v h' z => z.1 = 0 ∧ Q v h') 0 [some (.ref m), some (.int (zI f)), none, none, none, none] [] h (0, 0)
  have FR0 : frm (fun a i => a = m ∨ (m + 9 ≤ a ∧ a < m + 30)) h h := frm_0 h
  have w1 := wS_n (refT_w HR)
  refine e_aload_n dX12_crew_0 rfl ?_
  refine z_iconst (0) dX12_crew_1 rfl ?_
  refine z_put dX12_crew_2 tf_12_103 (rk_s hk) rfl (Or.inl rfl) (fun h1 e2 => ?_)
  have f3 := frm_1 e2
  have k4 := rk_q (frm_s f3) hk
  have H5 := refT_c f3 (fun a k q1 q2 => by omega) HR
  have FR6 := frm_t FR0 (frm_m (S' := (fun a i => a = m ∨ (m + 9 ≤ a ∧ a < m + 30))) f3 (fun a k q => by omega))
  refine e_aload_n dX12_crew_5 rfl ?_
  refine e_iload_n dX12_crew_6 rfl ?_
  refine e_callV [.int _] dX12_crew_7 tm_12_292 rfl (Nat.le_of_ble_eq_true rfl) (rk_s k4) (Nat.le_of_ble_eq_true rfl) (Nat.le_refl _) (Nat.le_refl _) rfl (zp_X12_hand_out k4 H5 f ⟨by omega, by omega⟩ (by omega) ?_)
  refine z_ifb_ne 15 dX12_crew_10 rfl (fun c7 => ?_) (fun c7 => ?_)
  · exfalso; exact c7
  · skip
    refine z_iconst (-1) dX12_crew_13 rfl ?_
    refine z_iret dX12_crew_14 rfl ⟨rfl, ?_⟩
    exact kq _ FR6
theorem op20 {ad : mA} {B : Nat} : op_20 ad B (Inv B) := by
  intro a 
  rw [← zI_toInt a]
  have ra := in_of a
  generalize a.toInt = a at *
  refine opq_I (ansF a (-1) (fun g r => fmax (crB g) crS 64 r)) (ansF_u (fun g r r' x y => fmax_u x y)) (fun h σ hk HX Q kq => ?_) (fun h σ hr HR Q kq => ?_)
  · by_cases q : 0 ≤ a ∧ a < cn σ 0
    · exact zp_X11_crew_in hk HX a ra q.1 q.2 (fun v p => kq v _ (frm_0 h) (Or.inl ⟨q.1, q.2, p⟩))
    · exact zp_X11_crew_out hk HX a ra q (kq _ _ (frm_0 h) (Or.inr ⟨q, rfl⟩))
  · by_cases q : 0 ≤ a ∧ a < cn σ 0
    · exact zp_X12_crew_in hr HR a ra q.1 q.2 (fun v p h1 f => kq v h1 f (Or.inl ⟨q.1, q.2, p⟩))
    · exact zp_X12_crew_out hr HR a ra q (fun h1 f => kq _ _ f (Or.inr ⟨q, rfl⟩))
