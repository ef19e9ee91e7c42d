/-! ROWS of the class: what is asked of a row -/
theorem dX5_stands_0 : decode cX5_stands 0 = .ok (.aload_n 0, 1) := by decide +kernel
theorem dX5_stands_1 : decode cX5_stands 1 = .ok (.invokevirtual 161, 3) := by decide +kernel
theorem dX5_stands_4 : decode cX5_stands 4 = .ok (.iconst (-1), 1) := by decide +kernel
theorem dX5_stands_5 : decode cX5_stands 5 = .ok (.if_icmp .ne 7, 3) := by decide +kernel
theorem dX5_stands_8 : decode cX5_stands 8 = .ok (.iconst 1, 1) := by decide +kernel
theorem dX5_stands_9 : decode cX5_stands 9 = .ok (.goto 4, 3) := by decide +kernel
theorem dX5_stands_12 : decode cX5_stands 12 = .ok (.iconst 0, 1) := by decide +kernel
theorem dX5_stands_13 : decode cX5_stands 13 = .ok (.ireturn, 1) := by decide +kernel
theorem dX5_upOf_0 : decode cX5_upOf 0 = .ok (.iload_n 1, 1) := by decide +kernel
theorem dX5_upOf_1 : decode cX5_upOf 1 = .ok (.ifCond .lt 18, 3) := by decide +kernel
theorem dX5_upOf_4 : decode cX5_upOf 4 = .ok (.iload_n 1, 1) := by decide +kernel
theorem dX5_upOf_5 : decode cX5_upOf 5 = .ok (.bipush 6, 2) := by decide +kernel
theorem dX5_upOf_7 : decode cX5_upOf 7 = .ok (.if_icmp .ge 12, 3) := by decide +kernel
theorem dX5_upOf_10 : decode cX5_upOf 10 = .ok (.aload_n 0, 1) := by decide +kernel
theorem dX5_upOf_11 : decode cX5_upOf 11 = .ok (.getfield 21, 3) := by decide +kernel
theorem dX5_upOf_14 : decode cX5_upOf 14 = .ok (.iload_n 1, 1) := by decide +kernel
theorem dX5_upOf_15 : decode cX5_upOf 15 = .ok (.iaload, 1) := by decide +kernel
theorem dX5_upOf_16 : decode cX5_upOf 16 = .ok (.goto 4, 3) := by decide +kernel
theorem dX5_upOf_19 : decode cX5_upOf 19 = .ok (.iconst (-1), 1) := by decide +kernel
theorem dX5_upOf_20 : decode cX5_upOf 20 = .ok (.ireturn, 1) := by decide +kernel
theorem dX5_sumOfLengths_0 : decode cX5_sumOfLengths 0 = .ok (.iconst 0, 1) := by decide +kernel
theorem dX5_sumOfLengths_1 : decode cX5_sumOfLengths 1 = .ok (.istore_n 1, 1) := by decide +kernel
theorem dX5_sumOfLengths_2 : decode cX5_sumOfLengths 2 = .ok (.iconst 0, 1) := by decide +kernel
theorem dX5_sumOfLengths_3 : decode cX5_sumOfLengths 3 = .ok (.istore_n 2, 1) := by decide +kernel
theorem dX5_sumOfLengths_4 : decode cX5_sumOfLengths 4 = .ok (.iload_n 2, 1) := by decide +kernel
theorem dX5_sumOfLengths_5 : decode cX5_sumOfLengths 5 = .ok (.aload_n 0, 1) := by decide +kernel
theorem dX5_sumOfLengths_6 : decode cX5_sumOfLengths 6 = .ok (.getfield 12, 3) := by decide +kernel
theorem dX5_sumOfLengths_9 : decode cX5_sumOfLengths 9 = .ok (.getfield 53, 3) := by decide +kernel
theorem dX5_sumOfLengths_12 : decode cX5_sumOfLengths 12 = .ok (.getfield 57, 3) := by decide +kernel
theorem dX5_sumOfLengths_15 : decode cX5_sumOfLengths 15 = .ok (.if_icmp .ge 24, 3) := by decide +kernel
theorem dX5_sumOfLengths_18 : decode cX5_sumOfLengths 18 = .ok (.iload_n 1, 1) := by decide +kernel
theorem dX5_sumOfLengths_19 : decode cX5_sumOfLengths 19 = .ok (.aload_n 0, 1) := by decide +kernel
theorem dX5_sumOfLengths_20 : decode cX5_sumOfLengths 20 = .ok (.getfield 12, 3) := by decide +kernel
theorem dX5_sumOfLengths_23 : decode cX5_sumOfLengths 23 = .ok (.getfield 53, 3) := by decide +kernel
theorem dX5_sumOfLengths_26 : decode cX5_sumOfLengths 26 = .ok (.getfield 184, 3) := by decide +kernel
theorem dX5_sumOfLengths_29 : decode cX5_sumOfLengths 29 = .ok (.iload_n 2, 1) := by decide +kernel
theorem dX5_sumOfLengths_30 : decode cX5_sumOfLengths 30 = .ok (.iaload, 1) := by decide +kernel
theorem dX5_sumOfLengths_31 : decode cX5_sumOfLengths 31 = .ok (.iadd, 1) := by decide +kernel
theorem dX5_sumOfLengths_32 : decode cX5_sumOfLengths 32 = .ok (.istore_n 1, 1) := by decide +kernel
theorem dX5_sumOfLengths_33 : decode cX5_sumOfLengths 33 = .ok (.iinc 2 1, 3) := by decide +kernel
theorem dX5_sumOfLengths_36 : decode cX5_sumOfLengths 36 = .ok (.goto (-32), 3) := by decide +kernel
theorem dX5_sumOfLengths_39 : decode cX5_sumOfLengths 39 = .ok (.iload_n 1, 1) := by decide +kernel
theorem dX5_sumOfLengths_40 : decode cX5_sumOfLengths 40 = .ok (.ireturn, 1) := by decide +kernel
theorem dX11_leaving_0 : decode cX11_leaving 0 = .ok (.aload_n 0, 1) := by decide +kernel
theorem dX11_leaving_1 : decode cX11_leaving 1 = .ok (.getfield 10, 3) := by decide +kernel
theorem dX11_leaving_4 : decode cX11_leaving 4 = .ok (.iload_n 1, 1) := by decide +kernel
theorem dX11_leaving_5 : decode cX11_leaving 5 = .ok (.invokevirtual 94, 3) := by decide +kernel
theorem dX11_leaving_8 : decode cX11_leaving 8 = .ok (.astore_n 3, 1) := by decide +kernel
theorem dX11_leaving_9 : decode cX11_leaving 9 = .ok (.aload_n 3, 1) := by decide +kernel
theorem dX11_leaving_10 : decode cX11_leaving 10 = .ok (.ifnull 12, 3) := by decide +kernel
theorem dX11_leaving_13 : decode cX11_leaving 13 = .ok (.iload_n 2, 1) := by decide +kernel
theorem dX11_leaving_14 : decode cX11_leaving 14 = .ok (.ifCond .lt 8, 3) := by decide +kernel
theorem dX11_leaving_17 : decode cX11_leaving 17 = .ok (.iload_n 2, 1) := by decide +kernel
theorem dX11_leaving_18 : decode cX11_leaving 18 = .ok (.iconst 5, 1) := by decide +kernel
theorem dX11_leaving_19 : decode cX11_leaving 19 = .ok (.if_icmp .le 5, 3) := by decide +kernel
theorem dX11_leaving_22 : decode cX11_leaving 22 = .ok (.iconst (-1), 1) := by decide +kernel
theorem dX11_leaving_23 : decode cX11_leaving 23 = .ok (.ireturn, 1) := by decide +kernel
theorem dX11_leaving_24 : decode cX11_leaving 24 = .ok (.aload_n 0, 1) := by decide +kernel
theorem dX11_leaving_25 : decode cX11_leaving 25 = .ok (.getfield 37, 3) := by decide +kernel
theorem dX11_leaving_28 : decode cX11_leaving 28 = .ok (.aload_n 3, 1) := by decide +kernel
theorem dX11_leaving_29 : decode cX11_leaving 29 = .ok (.iload_n 2, 1) := by decide +kernel
theorem dX11_leaving_30 : decode cX11_leaving 30 = .ok (.invokevirtual 127, 3) := by decide +kernel
theorem dX11_leaving_33 : decode cX11_leaving 33 = .ok (.aload_n 0, 1) := by decide +kernel
theorem dX11_leaving_34 : decode cX11_leaving 34 = .ok (.getfield 37, 3) := by decide +kernel
theorem dX11_leaving_37 : decode cX11_leaving 37 = .ok (.invokevirtual 131, 3) := by decide +kernel
theorem dX11_leaving_40 : decode cX11_leaving 40 = .ok (.ireturn, 1) := by decide +kernel
theorem dX11_row_0 : decode cX11_row 0 = .ok (.aload_n 0, 1) := by decide +kernel
theorem dX11_row_1 : decode cX11_row 1 = .ok (.getfield 10, 3) := by decide +kernel
theorem dX11_row_4 : decode cX11_row 4 = .ok (.iload_n 1, 1) := by decide +kernel
theorem dX11_row_5 : decode cX11_row 5 = .ok (.invokevirtual 94, 3) := by decide +kernel
theorem dX11_row_8 : decode cX11_row 8 = .ok (.astore 4, 2) := by decide +kernel
theorem dX11_row_10 : decode cX11_row 10 = .ok (.aload 4, 2) := by decide +kernel
theorem dX11_row_12 : decode cX11_row 12 = .ok (.ifnull 30, 3) := by decide +kernel
theorem dX11_row_15 : decode cX11_row 15 = .ok (.iload_n 2, 1) := by decide +kernel
theorem dX11_row_16 : decode cX11_row 16 = .ok (.iconst 1, 1) := by decide +kernel
theorem dX11_row_17 : decode cX11_row 17 = .ok (.if_icmp .lt 25, 3) := by decide +kernel
theorem dX11_row_20 : decode cX11_row 20 = .ok (.iload_n 2, 1) := by decide +kernel
theorem dX11_row_21 : decode cX11_row 21 = .ok (.iconst 5, 1) := by decide +kernel
theorem dX11_row_22 : decode cX11_row 22 = .ok (.if_icmp .gt 20, 3) := by decide +kernel
theorem dX11_row_25 : decode cX11_row 25 = .ok (.iload_n 3, 1) := by decide +kernel
theorem dX11_row_26 : decode cX11_row 26 = .ok (.iconst (-1), 1) := by decide +kernel
theorem dX11_row_27 : decode cX11_row 27 = .ok (.if_icmp .eq 17, 3) := by decide +kernel
theorem dX11_row_30 : decode cX11_row 30 = .ok (.aload 4, 2) := by decide +kernel
theorem dX11_row_32 : decode cX11_row 32 = .ok (.getfield 135, 3) := by decide +kernel
theorem dX11_row_35 : decode cX11_row 35 = .ok (.iload_n 3, 1) := by decide +kernel
theorem dX11_row_36 : decode cX11_row 36 = .ok (.invokevirtual 139, 3) := by decide +kernel
theorem dX11_row_39 : decode cX11_row 39 = .ok (.ifCond .ne 5, 3) := by decide +kernel
theorem dX11_row_42 : decode cX11_row 42 = .ok (.iconst (-1), 1) := by decide +kernel
theorem dX11_row_43 : decode cX11_row 43 = .ok (.ireturn, 1) := by decide +kernel
theorem dX11_row_44 : decode cX11_row 44 = .ok (.aload_n 0, 1) := by decide +kernel
theorem dX11_row_45 : decode cX11_row 45 = .ok (.getfield 37, 3) := by decide +kernel
theorem dX11_row_48 : decode cX11_row 48 = .ok (.aload 4, 2) := by decide +kernel
theorem dX11_row_50 : decode cX11_row 50 = .ok (.iload_n 2, 1) := by decide +kernel
theorem dX11_row_51 : decode cX11_row 51 = .ok (.invokevirtual 127, 3) := by decide +kernel
theorem dX11_row_54 : decode cX11_row 54 = .ok (.iload_n 3, 1) := by decide +kernel
theorem dX11_row_55 : decode cX11_row 55 = .ok (.iconst (-1), 1) := by decide +kernel
theorem dX11_row_56 : decode cX11_row 56 = .ok (.if_icmp .ne 13, 3) := by decide +kernel
theorem dX11_row_59 : decode cX11_row 59 = .ok (.aload_n 0, 1) := by decide +kernel
theorem dX11_row_60 : decode cX11_row 60 = .ok (.getfield 37, 3) := by decide +kernel
theorem dX11_row_63 : decode cX11_row 63 = .ok (.invokevirtual 145, 3) := by decide +kernel
theorem dX11_row_66 : decode cX11_row 66 = .ok (.goto 11, 3) := by decide +kernel
theorem dX11_row_69 : decode cX11_row 69 = .ok (.aload_n 0, 1) := by decide +kernel
theorem dX11_row_70 : decode cX11_row 70 = .ok (.getfield 37, 3) := by decide +kernel
theorem dX11_row_73 : decode cX11_row 73 = .ok (.iload_n 3, 1) := by decide +kernel
theorem dX11_row_74 : decode cX11_row 74 = .ok (.invokevirtual 148, 3) := by decide +kernel
theorem dX11_row_77 : decode cX11_row 77 = .ok (.ireturn, 1) := by decide +kernel
theorem dX11_rows_0 : decode cX11_rows 0 = .ok (.aload_n 0, 1) := by decide +kernel
theorem dX11_rows_1 : decode cX11_rows 1 = .ok (.getfield 10, 3) := by decide +kernel
theorem dX11_rows_4 : decode cX11_rows 4 = .ok (.iload_n 1, 1) := by decide +kernel
theorem dX11_rows_5 : decode cX11_rows 5 = .ok (.invokevirtual 94, 3) := by decide +kernel
theorem dX11_rows_8 : decode cX11_rows 8 = .ok (.astore_n 3, 1) := by decide +kernel
theorem dX11_rows_9 : decode cX11_rows 9 = .ok (.aload_n 3, 1) := by decide +kernel
theorem dX11_rows_10 : decode cX11_rows 10 = .ok (.ifnull 12, 3) := by decide +kernel
theorem dX11_rows_13 : decode cX11_rows 13 = .ok (.iload_n 2, 1) := by decide +kernel
theorem dX11_rows_14 : decode cX11_rows 14 = .ok (.ifCond .lt 8, 3) := by decide +kernel
theorem dX11_rows_17 : decode cX11_rows 17 = .ok (.iload_n 2, 1) := by decide +kernel
theorem dX11_rows_18 : decode cX11_rows 18 = .ok (.iconst 3, 1) := by decide +kernel
theorem dX11_rows_19 : decode cX11_rows 19 = .ok (.if_icmp .le 5, 3) := by decide +kernel
theorem dX11_rows_22 : decode cX11_rows 22 = .ok (.iconst (-1), 1) := by decide +kernel
theorem dX11_rows_23 : decode cX11_rows 23 = .ok (.ireturn, 1) := by decide +kernel
theorem dX11_rows_24 : decode cX11_rows 24 = .ok (.iload_n 2, 1) := by decide +kernel
theorem dX11_rows_25 : decode cX11_rows 25 = .ok (.iconst 3, 1) := by decide +kernel
theorem dX11_rows_26 : decode cX11_rows 26 = .ok (.if_icmp .ne 14, 3) := by decide +kernel
theorem dX11_rows_29 : decode cX11_rows 29 = .ok (.aload_n 0, 1) := by decide +kernel
theorem dX11_rows_30 : decode cX11_rows 30 = .ok (.getfield 37, 3) := by decide +kernel
theorem dX11_rows_33 : decode cX11_rows 33 = .ok (.aload_n 3, 1) := by decide +kernel
theorem dX11_rows_34 : decode cX11_rows 34 = .ok (.invokevirtual 151, 3) := by decide +kernel
theorem dX11_rows_37 : decode cX11_rows 37 = .ok (.goto 14, 3) := by decide +kernel
theorem dX11_rows_40 : decode cX11_rows 40 = .ok (.aload_n 0, 1) := by decide +kernel
theorem dX11_rows_41 : decode cX11_rows 41 = .ok (.getfield 37, 3) := by decide +kernel
theorem dX11_rows_44 : decode cX11_rows 44 = .ok (.aload_n 3, 1) := by decide +kernel
theorem dX11_rows_45 : decode cX11_rows 45 = .ok (.iconst 3, 1) := by decide +kernel
theorem dX11_rows_46 : decode cX11_rows 46 = .ok (.iload_n 2, 1) := by decide +kernel
theorem dX11_rows_47 : decode cX11_rows 47 = .ok (.iadd, 1) := by decide +kernel
theorem dX11_rows_48 : decode cX11_rows 48 = .ok (.invokevirtual 155, 3) := by decide +kernel
theorem dX11_rows_51 : decode cX11_rows 51 = .ok (.ireturn, 1) := by decide +kernel
theorem dX11_moves_0 : decode cX11_moves 0 = .ok (.aload_n 0, 1) := by decide +kernel
theorem dX11_moves_1 : decode cX11_moves 1 = .ok (.getfield 10, 3) := by decide +kernel
theorem dX11_moves_4 : decode cX11_moves 4 = .ok (.iload_n 1, 1) := by decide +kernel
theorem dX11_moves_5 : decode cX11_moves 5 = .ok (.invokevirtual 94, 3) := by decide +kernel
theorem dX11_moves_8 : decode cX11_moves 8 = .ok (.astore 4, 2) := by decide +kernel
theorem dX11_moves_10 : decode cX11_moves 10 = .ok (.aload 4, 2) := by decide +kernel
theorem dX11_moves_12 : decode cX11_moves 12 = .ok (.ifnull 13, 3) := by decide +kernel
theorem dX11_moves_15 : decode cX11_moves 15 = .ok (.iload_n 2, 1) := by decide +kernel
theorem dX11_moves_16 : decode cX11_moves 16 = .ok (.iconst 1, 1) := by decide +kernel
theorem dX11_moves_17 : decode cX11_moves 17 = .ok (.if_icmp .lt 8, 3) := by decide +kernel
theorem dX11_moves_20 : decode cX11_moves 20 = .ok (.iload_n 2, 1) := by decide +kernel
theorem dX11_moves_21 : decode cX11_moves 21 = .ok (.iconst 5, 1) := by decide +kernel
theorem dX11_moves_22 : decode cX11_moves 22 = .ok (.if_icmp .le 5, 3) := by decide +kernel
theorem dX11_moves_25 : decode cX11_moves 25 = .ok (.iconst (-1), 1) := by decide +kernel
theorem dX11_moves_26 : decode cX11_moves 26 = .ok (.ireturn, 1) := by decide +kernel
theorem dX11_moves_27 : decode cX11_moves 27 = .ok (.aload_n 0, 1) := by decide +kernel
theorem dX11_moves_28 : decode cX11_moves 28 = .ok (.getfield 37, 3) := by decide +kernel
theorem dX11_moves_31 : decode cX11_moves 31 = .ok (.aload 4, 2) := by decide +kernel
theorem dX11_moves_33 : decode cX11_moves 33 = .ok (.iload_n 2, 1) := by decide +kernel
theorem dX11_moves_34 : decode cX11_moves 34 = .ok (.invokevirtual 127, 3) := by decide +kernel
theorem dX11_moves_37 : decode cX11_moves 37 = .ok (.iload_n 3, 1) := by decide +kernel
theorem dX11_moves_38 : decode cX11_moves 38 = .ok (.ifCond .eq 13, 3) := by decide +kernel
theorem dX11_moves_41 : decode cX11_moves 41 = .ok (.aload_n 0, 1) := by decide +kernel
theorem dX11_moves_42 : decode cX11_moves 42 = .ok (.getfield 37, 3) := by decide +kernel
theorem dX11_moves_45 : decode cX11_moves 45 = .ok (.invokevirtual 263, 3) := by decide +kernel
theorem dX11_moves_48 : decode cX11_moves 48 = .ok (.goto 10, 3) := by decide +kernel
theorem dX11_moves_51 : decode cX11_moves 51 = .ok (.aload_n 0, 1) := by decide +kernel
theorem dX11_moves_52 : decode cX11_moves 52 = .ok (.getfield 37, 3) := by decide +kernel
theorem dX11_moves_55 : decode cX11_moves 55 = .ok (.invokevirtual 266, 3) := by decide +kernel
theorem dX11_moves_58 : decode cX11_moves 58 = .ok (.ireturn, 1) := by decide +kernel
theorem tf_5_184 : tFld TB0 5 184 = some (0, 0) := rfl
set_option maxRecDepth 20000 in
theorem tm_11_127 : tMet TB0 11 127 = some (0, M_X5_pick) := rfl
set_option maxRecDepth 20000 in
theorem tm_11_131 : tMet TB0 11 131 = some (0, M_X5_leavingCouples) := rfl
set_option maxRecDepth 20000 in
theorem tm_11_145 : tMet TB0 11 145 = some (0, M_X5_couples) := rfl
set_option maxRecDepth 20000 in
theorem tm_11_148 : tMet TB0 11 148 = some (0, M_X5_upOf) := rfl
set_option maxRecDepth 20000 in
theorem tm_11_263 : tMet TB0 11 263 = some (0, M_X5_toRivet) := rfl
set_option maxRecDepth 20000 in
theorem tm_11_266 : tMet TB0 11 266 = some (0, M_X5_toPart) := rfl
theorem fl_ns {g r : Int → Int} {v : Int} (h : flP g r v) (q : v ≠ -1) : ¬ stn g r := by
  rcases h with z | ⟨d, u, z1, z2, z3, z4⟩
  · exact absurd z.1 q
  · exact fun s => s d u z1.1.1 z1.1.2 z1.2.1 z1.2.2 z3
def stV (g r : Int → Int) (v : Int) : Prop := (v = 1 ∧ stn g r) ∨ (v = 0 ∧ ¬ stn g r)
set_option maxHeartbeats 400000 in
theorem zp_X5_stands {ad : mA} {dd : Nat} {h : mH} {Q : mQ} {y : Nat} {g r : Int → Int} (hk : mak h y) (HF : isF h (y + 1) g) (HD : bdC h y g) (HW : mrC h y g r)    (kq : ∀ v : Int, (stV g r v) → Q (some (.int (zI v))) h) : mCal TB0 ad (dd + 3) M_X5_stands [.ref y] h 0 0 Q := by
  refine ⟨Nat.le_of_ble_eq_true rfl, ?_⟩
  show mEv TB0 ad M_X5_stands (dd + 3) (0, 0) (mCal TB0 ad (dd + 2)) (fun v h' z => z.1 = 0 ∧ Q v h') 0 [some (.ref y)] [] h (0, 0)
  have w1 := isF_n HF
  have W := isF_w HF
  refine e_aload_n dX5_stands_0 rfl ?_
  refine e_callV [] dX5_stands_1 tm_5_161 rfl (Nat.le_of_ble_eq_true rfl) (congrArg Prod.fst (ma_s0 hk)) (Nat.le_of_ble_eq_true rfl) (Nat.le_refl _) (Nat.le_refl _) rfl (zp_X5_firstLeaving hk HF HD HW (fun v1 p2 => ?_))
  have fl : flP g r v1 := by assumption
  have fb := fl_b (by omega) fl
  refine z_iconst (-1) dX5_stands_4 rfl ?_
  refine z_icmp_ne 12 dX5_stands_5 rfl ⟨by omega, by omega⟩ ⟨by omega, by omega⟩ (fun c3 => ?_) (fun c3 => ?_)
  · skip
    refine z_iconst (0) dX5_stands_12 rfl ?_
    refine z_bret dX5_stands_13 rfl (Or.inl rfl) ⟨rfl, ?_⟩
    refine kq _ ?_
    first | exact Or.inl ⟨rfl, fl_s fl (by omega)⟩ | exact Or.inr ⟨rfl, fl_ns fl (by omega)⟩
  · skip
    refine z_iconst (1) dX5_stands_8 rfl ?_
    refine e_goto 13 dX5_stands_9 rfl ?_
    refine z_bret dX5_stands_13 rfl (Or.inr rfl) ⟨rfl, ?_⟩
    refine kq _ ?_
    first | exact Or.inl ⟨rfl, fl_s fl (by omega)⟩ | exact Or.inr ⟨rfl, fl_ns fl (by omega)⟩
set_option maxHeartbeats 400000 in
theorem zp_X5_upOf {ad : mA} {dd : Nat} {h : mH} {Q : mQ} {y : Nat} {g r : Int → Int} (hk : mak h y) (HW : mrC h y g r)  (d : Int) (d_r : -2147483648 ≤ d ∧ d < 2147483648) (p1 : 0 ≤ d ∧ d < 6) (kq : Q (some (.int (zI (r d)))) h) : mCal TB0 ad (dd + 1) M_X5_upOf [.ref y, .int (zI d)] h 0 0 Q := by
  refine ⟨Nat.le_of_ble_eq_true rfl, ?_⟩
  show mEv TB0 ad M_X5_upOf (dd + 1) (0, 0) (mCal TB0 ad (dd + 0)) (fun v h' z => z.1 = 0 ∧ Q v h') 0 [some (.ref y), some (.int (zI d))] [] h (0, 0)
  refine e_iload_n dX5_upOf_0 rfl ?_
  refine z_if_lt 19 dX5_upOf_1 rfl ⟨by omega, by omega⟩ (fun c1 => ?_) (fun c1 => ?_)
  · exfalso; omega
  · skip
    refine e_iload_n dX5_upOf_4 rfl ?_
    refine z_bipush (6) dX5_upOf_5 rfl ?_
    refine z_icmp_ge 19 dX5_upOf_7 rfl ⟨by omega, by omega⟩ ⟨by omega, by omega⟩ (fun c2 => ?_) (fun c2 => ?_)
    · exfalso; omega
    · skip
      refine e_aload_n dX5_upOf_10 rfl ?_
      refine e_get (.ref (y + 33)) dX5_upOf_11 tf_5_21 (congrArg Prod.fst (ma_s0 hk)) (congrArg va_rf (ma_r0_2 hk)) ?_
      refine e_iload_n dX5_upOf_14 rfl ?_
      refine z_ild (r d) dX5_upOf_15 (ma_s33 hk) (by decide) (by omega) (by omega) (HW.2.1 d (by omega) (by omega)) ?_
      have y3 := isRw_f HW.1.1 (show 0 ≤ d by omega) (by omega)
      have y4 := HW.1.2 d (by omega) (by omega)
      refine e_goto 20 dX5_upOf_16 rfl ?_
      refine z_iret dX5_upOf_20 rfl ⟨rfl, ?_⟩
      refine z_q kq ?_
      rfl
set_option maxHeartbeats 400000 in
theorem zp_X5_sumOfLengths {ad : mA} {dd : Nat} {h : mH} {Q : mQ} {y : Nat} {g : Int → Int} (hk : mak h y) (HF : isF h (y + 1) g)    (kq : Q (some (.int (zI (sumZ (dl g) (nd g).toNat)))) h) : mCal TB0 ad (dd + 1) M_X5_sumOfLengths [.ref y] h 0 0 Q := by
  refine ⟨Nat.le_of_ble_eq_true rfl, ?_⟩
  show mEv TB0 ad M_X5_sumOfLengths (dd + 1) (0, 0) (mCal TB0 ad (dd + 0)) (fun v h' z => z.1 = 0 ∧ Q v h') 0 [some (.ref y), none, none] [] h (0, 0)
  have w1 := isF_n HF
  have W := isF_w HF
  refine z_iconst (0) dX5_sumOfLengths_0 rfl ?_
  refine e_istore_n (L' := [_, _, _]) dX5_sumOfLengths_1 (Nat.le_of_ble_eq_true rfl) rfl ?_
  refine z_iconst (0) dX5_sumOfLengths_2 rfl ?_
  refine e_istore_n (L' := [_, _, _]) dX5_sumOfLengths_3 (Nat.le_of_ble_eq_true rfl) rfl ?_
  have lp1 : ∀ (n1 : Nat) (t d : Int), (nd g - d).toNat = n1 → (0 ≤ d ∧ d ≤ nd g) → (0 ≤ t ∧ t ≤ 1000000 * d) → (t = sumZ (dl g) d.toNat) → mEv TB0 ad M_X5_sumOfLengths (dd + 1) (0, 0) (mCal TB0 ad (dd + 0)) (fun v h' z => z.1 = 0 ∧ Q v h') 4 [some (.ref y), some (.int (zI t)), some (.int (zI d))] [] h (0, 0) := by
    intro n1
    induction n1 using Nat.strongRecOn with
    | ind n1 ih1 =>
    intro t d  hn1  I1 I2 I3
    refine e_iload_n dX5_sumOfLengths_4 rfl ?_
    refine e_aload_n dX5_sumOfLengths_5 rfl ?_
    refine e_get (.ref (y + 1)) dX5_sumOfLengths_6 tf_5_12 (congrArg Prod.fst (ma_s0 hk)) (congrArg va_rf (ma_r0_0 hk)) ?_
    refine e_get (.ref (y + 2)) dX5_sumOfLengths_9 tf_5_53 (congrArg Prod.fst (ma_s1 hk)) (congrArg va_rf (ma_r1_0 hk)) ?_
    refine z_get (nd g) dX5_sumOfLengths_12 tf_5_57 (congrArg Prod.fst (ma_s2 hk)) (Or.inl rfl) (isF_nd HF) ?_
    have y2 := isF_n HF
    refine z_icmp_ge 39 dX5_sumOfLengths_15 rfl ⟨by omega, by omega⟩ ⟨by omega, by omega⟩ (fun c3 => ?_) (fun c3 => ?_)
    · skip
      refine e_iload_n dX5_sumOfLengths_39 rfl ?_
      refine z_iret dX5_sumOfLengths_40 rfl ⟨rfl, ?_⟩
      refine z_q kq ?_
      rw [I3, show d = nd g by omega]
    · skip
      refine e_iload_n dX5_sumOfLengths_18 rfl ?_
      refine e_aload_n dX5_sumOfLengths_19 rfl ?_
      refine e_get (.ref (y + 1)) dX5_sumOfLengths_20 tf_5_12 (congrArg Prod.fst (ma_s0 hk)) (congrArg va_rf (ma_r0_0 hk)) ?_
      refine e_get (.ref (y + 2)) dX5_sumOfLengths_23 tf_5_53 (congrArg Prod.fst (ma_s1 hk)) (congrArg va_rf (ma_r1_0 hk)) ?_
      refine e_get (.ref (y + 3)) dX5_sumOfLengths_26 tf_5_184 (congrArg Prod.fst (ma_s2 hk)) (congrArg va_rf (ma_r2_0 hk)) ?_
      refine e_iload_n dX5_sumOfLengths_29 rfl ?_
      refine z_ild (dl g d) dX5_sumOfLengths_30 (ma_s3 hk) (by decide) (by omega) (by omega) (isF_dl HF (by omega) (by omega)) ?_
      have y4 := wB_d (isF_w HF).1 (show 0 ≤ d by omega) (by omega)
      refine z_iadd dX5_sumOfLengths_31 ?_
      refine e_istore_n (L' := [_, _, _]) dX5_sumOfLengths_32 (Nat.le_of_ble_eq_true rfl) rfl ?_
      refine z_iinc (L' := [_, _, _]) dX5_sumOfLengths_33 rfl rfl ?_
      refine e_goto 4 dX5_sumOfLengths_36 rfl ?_
      exact ih1 _ (by omega) (t + (dl g d)) (d + 1)  rfl  (by omega) (by omega) (by rw [sumZ_s (by omega)]; omega)
  exact lp1 _ 0 0  rfl  (by omega) (by omega) rfl
set_option maxHeartbeats 1000000 in
theorem zp_X11_leaving_0 {ad : mA} {dd : Nat} {h : mH} {Q : mQ} {x : Nat} {σ : Sg} (hk : bk h x) (HX : clsT h (x + 1) σ)  (f : Int) (f_r : -2147483648 ≤ f ∧ f < 2147483648) (p1 : 0 ≤ f) (p2 : f < cn σ 0) (kq : ∀ v : Int, (∃ r, rwR (sG σ f) 0 r ∧ v = lvN (sG σ f) r) → ∀ h1, frm (fun a i => x + 56 ≤ a ∧ a < x + 157) h h1 → Q (some (.int (zI v))) h1) : mCal TB0 ad (dd + 5) M_X11_leaving [.ref x, .int (zI f), .int (zI 0)] h 0 0 Q := by
  refine ⟨Nat.le_of_ble_eq_true rfl, ?_⟩
  show mEv TB0 ad M_X11_leaving (dd + 5) (0, 0) (mCal TB0 ad (dd + 4)) (fun v h' z => z.1 = 0 ∧ Q v h') 0 [some (.ref x), some (.int (zI f)), some (.int (zI 0)), none] [] h (0, 0)
  have FR0 : frm (fun a i => x + 56 ≤ a ∧ a < x + 157) h h := frm_0 h
  have w1 := wS_n (clsT_w HX)
  have W := (clsT_w HX).2.2.1 f p1 p2
  have nW : (0 ≤ nd (sG σ f) ∧ nd (sG σ f) ≤ 6) ∧ (0 ≤ nu (sG σ f) ∧ nu (sG σ f) ≤ 6) := ⟨W.1.1, W.1.2.1⟩
  refine e_aload_n dX11_leaving_0 rfl ?_
  refine e_get (.ref (x + 1)) dX11_leaving_1 tf_11_10 (congrArg Prod.fst (bk_s0 hk)) (congrArg va_rf (bk_r0_0 hk)) ?_
  refine e_iload_n dX11_leaving_4 rfl ?_
  refine e_callV [.int _] dX11_leaving_5 tm_11_94 rfl (Nat.le_of_ble_eq_true rfl) (congrArg Prod.fst (bk_s1 hk)) (Nat.le_of_ble_eq_true rfl) (Nat.le_refl _) (Nat.le_refl _) rfl (zp_X8_forgeAt_in (bk_td1 hk) HX f ⟨by omega, by omega⟩ (by omega) (by omega) ?_)
  have k1 := fAt_k (bk_td1 hk) f
  have H2 := clsT_F HX (show 0 ≤ f by omega) (by omega)
  have y3 := fAt_b (x + 1) f
  refine e_astore_n (L' := [_, _, _, _]) dX11_leaving_8 (Nat.le_of_ble_eq_true rfl) rfl ?_
  refine e_aload_n dX11_leaving_9 rfl ?_
  refine e_ifnull 22 dX11_leaving_10 rfl ?_
  refine e_iload_n dX11_leaving_13 rfl ?_
  refine z_if_lt 22 dX11_leaving_14 rfl ⟨by omega, by omega⟩ (fun c4 => ?_) (fun c4 => ?_)
  · exfalso; omega
  · skip
    refine e_iload_n dX11_leaving_17 rfl ?_
    refine z_iconst (5) dX11_leaving_18 rfl ?_
    refine z_icmp_le 24 dX11_leaving_19 rfl ⟨by omega, by omega⟩ ⟨by omega, by omega⟩ (fun c5 => ?_) (fun c5 => ?_)
    · skip
      refine e_aload_n dX11_leaving_24 rfl ?_
      refine e_get (.ref (x + 100)) dX11_leaving_25 tf_11_37 (congrArg Prod.fst (bk_s0 hk)) (congrArg va_rf (bk_r0_4 hk)) ?_
      refine e_aload_n dX11_leaving_28 rfl ?_
      refine e_iload_n dX11_leaving_29 rfl ?_
      refine e_callV [.ref _, .int _] dX11_leaving_30 tm_11_127 rfl (Nat.le_of_ble_eq_true rfl) (congrArg Prod.fst (bk_s100 hk)) (Nat.le_of_ble_eq_true rfl) (Nat.le_refl _) (Nat.le_refl _) rfl (zp_X5_pick_0 (bk_ma100 hk) k1 H2 (by omega) (by omega) (fun  h6 f7 p8 p9 p10 => ?_))
      have k11 := bk_q (frm_s f7) hk
      have k12 := lk_q (frm_s f7) k1
      have H13 := clsT_c f7 (fun a k q1 q2 => by omega) HX
      have H14 := isF_c f7 (fun a k q1 q2 => by omega) H2
      have FR15 := frm_t FR0 (frm_m (S' := (fun a i => x + 56 ≤ a ∧ a < x + 157)) f7 (fun a k q => by omega))
      skip
      refine e_aload_n dX11_leaving_33 rfl ?_
      refine e_get (.ref (x + 100)) dX11_leaving_34 tf_11_37 (congrArg Prod.fst (bk_s0 k11)) (congrArg va_rf (bk_r0_4 k11)) ?_
      refine e_callV [] dX11_leaving_37 tm_11_131 rfl (Nat.le_of_ble_eq_true rfl) (congrArg Prod.fst (bk_s100 k11)) (Nat.le_of_ble_eq_true rfl) (Nat.le_refl _) (Nat.le_refl _) rfl (zp_X5_leavingCouples (bk_ma100 k11) p8 p9 p10 ?_)
      have y16 := lvN_b (show (0 ≤ nd (sG σ f) ∧ nd (sG σ f) ≤ 6) ∧ (0 ≤ nu (sG σ f) ∧ nu (sG σ f) ≤ 6) by omega) (tlR (sG σ f))
      refine z_iret dX11_leaving_40 rfl ⟨rfl, ?_⟩
      refine kq _ ?_ _ FR15
      exact ⟨tlR (sG σ f), ⟨tlR_w W, Or.inl ⟨rfl, fun d a c => rfl⟩⟩, rfl⟩
    · exfalso; omega
set_option maxHeartbeats 1000000 in
theorem zp_X11_leaving_1 {ad : mA} {dd : Nat} {h : mH} {Q : mQ} {x : Nat} {σ : Sg} (hk : bk h x) (HX : clsT h (x + 1) σ)  (f : Int) (f_r : -2147483648 ≤ f ∧ f < 2147483648) (p1 : 0 ≤ f) (p2 : f < cn σ 0) (kq : ∀ v : Int, (∃ r, rwR (sG σ f) 1 r ∧ v = lvN (sG σ f) r) → ∀ h1, frm (fun a i => x + 56 ≤ a ∧ a < x + 157) h h1 → Q (some (.int (zI v))) h1) : mCal TB0 ad (dd + 5) M_X11_leaving [.ref x, .int (zI f), .int (zI 1)] h 0 0 Q := by
  refine ⟨Nat.le_of_ble_eq_true rfl, ?_⟩
  show mEv TB0 ad M_X11_leaving (dd + 5) (0, 0) (mCal TB0 ad (dd + 4)) (fun v h' z => z.1 = 0 ∧ Q v h') 0 [some (.ref x), some (.int (zI f)), some (.int (zI 1)), none] [] h (0, 0)
  have FR0 : frm (fun a i => x + 56 ≤ a ∧ a < x + 157) h h := frm_0 h
  have w1 := wS_n (clsT_w HX)
  have W := (clsT_w HX).2.2.1 f p1 p2
  have nW : (0 ≤ nd (sG σ f) ∧ nd (sG σ f) ≤ 6) ∧ (0 ≤ nu (sG σ f) ∧ nu (sG σ f) ≤ 6) := ⟨W.1.1, W.1.2.1⟩
  refine e_aload_n dX11_leaving_0 rfl ?_
  refine e_get (.ref (x + 1)) dX11_leaving_1 tf_11_10 (congrArg Prod.fst (bk_s0 hk)) (congrArg va_rf (bk_r0_0 hk)) ?_
  refine e_iload_n dX11_leaving_4 rfl ?_
  refine e_callV [.int _] dX11_leaving_5 tm_11_94 rfl (Nat.le_of_ble_eq_true rfl) (congrArg Prod.fst (bk_s1 hk)) (Nat.le_of_ble_eq_true rfl) (Nat.le_refl _) (Nat.le_refl _) rfl (zp_X8_forgeAt_in (bk_td1 hk) HX f ⟨by omega, by omega⟩ (by omega) (by omega) ?_)
  have k1 := fAt_k (bk_td1 hk) f
  have H2 := clsT_F HX (show 0 ≤ f by omega) (by omega)
  have y3 := fAt_b (x + 1) f
  refine e_astore_n (L' := [_, _, _, _]) dX11_leaving_8 (Nat.le_of_ble_eq_true rfl) rfl ?_
  refine e_aload_n dX11_leaving_9 rfl ?_
  refine e_ifnull 22 dX11_leaving_10 rfl ?_
  refine e_iload_n dX11_leaving_13 rfl ?_
  refine z_if_lt 22 dX11_leaving_14 rfl ⟨by omega, by omega⟩ (fun c4 => ?_) (fun c4 => ?_)
  · exfalso; omega
  · skip
    refine e_iload_n dX11_leaving_17 rfl ?_
    refine z_iconst (5) dX11_leaving_18 rfl ?_
    refine z_icmp_le 24 dX11_leaving_19 rfl ⟨by omega, by omega⟩ ⟨by omega, by omega⟩ (fun c5 => ?_) (fun c5 => ?_)
    · skip
      refine e_aload_n dX11_leaving_24 rfl ?_
      refine e_get (.ref (x + 100)) dX11_leaving_25 tf_11_37 (congrArg Prod.fst (bk_s0 hk)) (congrArg va_rf (bk_r0_4 hk)) ?_
      refine e_aload_n dX11_leaving_28 rfl ?_
      refine e_iload_n dX11_leaving_29 rfl ?_
      refine e_callV [.ref _, .int _] dX11_leaving_30 tm_11_127 rfl (Nat.le_of_ble_eq_true rfl) (congrArg Prod.fst (bk_s100 hk)) (Nat.le_of_ble_eq_true rfl) (Nat.le_refl _) (Nat.le_refl _) rfl (zp_X5_pick_1 (bk_ma100 hk) k1 H2 (by omega) (by omega) (fun  h6 f7 p8 p9 p10 => ?_))
      have k11 := bk_q (frm_s f7) hk
      have k12 := lk_q (frm_s f7) k1
      have H13 := clsT_c f7 (fun a k q1 q2 => by omega) HX
      have H14 := isF_c f7 (fun a k q1 q2 => by omega) H2
      have FR15 := frm_t FR0 (frm_m (S' := (fun a i => x + 56 ≤ a ∧ a < x + 157)) f7 (fun a k q => by omega))
      obtain ⟨r, MR, SR⟩ := p10
      have RR : rwR (sG σ f) 1 r := ⟨MR.1.1, Or.inr (Or.inl ⟨by omega, SR⟩)⟩
      refine e_aload_n dX11_leaving_33 rfl ?_
      refine e_get (.ref (x + 100)) dX11_leaving_34 tf_11_37 (congrArg Prod.fst (bk_s0 k11)) (congrArg va_rf (bk_r0_4 k11)) ?_
      refine e_callV [] dX11_leaving_37 tm_11_131 rfl (Nat.le_of_ble_eq_true rfl) (congrArg Prod.fst (bk_s100 k11)) (Nat.le_of_ble_eq_true rfl) (Nat.le_refl _) (Nat.le_refl _) rfl (zp_X5_leavingCouples (bk_ma100 k11) p8 p9 MR ?_)
      have y16 := lvN_b (show (0 ≤ nd (sG σ f) ∧ nd (sG σ f) ≤ 6) ∧ (0 ≤ nu (sG σ f) ∧ nu (sG σ f) ≤ 6) by omega) r
      refine z_iret dX11_leaving_40 rfl ⟨rfl, ?_⟩
      refine kq _ ?_ _ FR15
      exact ⟨r, RR, rfl⟩
    · exfalso; omega
set_option maxHeartbeats 1000000 in
theorem zp_X11_row_1 {ad : mA} {dd : Nat} {h : mH} {Q : mQ} {x : Nat} {σ : Sg} (hk : bk h x) (HX : clsT h (x + 1) σ)  (f : Int) (f_r : -2147483648 ≤ f ∧ f < 2147483648) (k : Int) (k_r : -2147483648 ≤ k ∧ k < 2147483648) (p1 : 0 ≤ f) (p2 : f < cn σ 0) (kq : ∀ v : Int, (((-1 ≤ k ∧ k < nd (sG σ f)) ∧ ∃ r, rwR (sG σ f) 1 r ∧ v = if k = -1 then inR r else r k) ∨ (¬ (-1 ≤ k ∧ k < nd (sG σ f)) ∧ v = -1)) → ∀ h1, frm (fun a i => x + 56 ≤ a ∧ a < x + 157) h h1 → Q (some (.int (zI v))) h1) : mCal TB0 ad (dd + 5) M_X11_row [.ref x, .int (zI f), .int (zI 1), .int (zI k)] h 0 0 Q := by
  refine ⟨Nat.le_of_ble_eq_true rfl, ?_⟩
  show mEv TB0 ad M_X11_row (dd + 5) (0, 0) (mCal TB0 ad (dd + 4)) (fun v h' z => z.1 = 0 ∧ Q v h') 0 [some (.ref x), some (.int (zI f)), some (.int (zI 1)), some (.int (zI k)), none] [] h (0, 0)
  have FR0 : frm (fun a i => x + 56 ≤ a ∧ a < x + 157) h h := frm_0 h
  have w1 := wS_n (clsT_w HX)
  have W := (clsT_w HX).2.2.1 f p1 p2
  have nW : (0 ≤ nd (sG σ f) ∧ nd (sG σ f) ≤ 6) ∧ (0 ≤ nu (sG σ f) ∧ nu (sG σ f) ≤ 6) := ⟨W.1.1, W.1.2.1⟩
  refine e_aload_n dX11_row_0 rfl ?_
  refine e_get (.ref (x + 1)) dX11_row_1 tf_11_10 (congrArg Prod.fst (bk_s0 hk)) (congrArg va_rf (bk_r0_0 hk)) ?_
  refine e_iload_n dX11_row_4 rfl ?_
  refine e_callV [.int _] dX11_row_5 tm_11_94 rfl (Nat.le_of_ble_eq_true rfl) (congrArg Prod.fst (bk_s1 hk)) (Nat.le_of_ble_eq_true rfl) (Nat.le_refl _) (Nat.le_refl _) rfl (zp_X8_forgeAt_in (bk_td1 hk) HX f ⟨by omega, by omega⟩ (by omega) (by omega) ?_)
  have k1 := fAt_k (bk_td1 hk) f
  have H2 := clsT_F HX (show 0 ≤ f by omega) (by omega)
  have y3 := fAt_b (x + 1) f
  refine e_astore (L' := [_, _, _, _, _]) dX11_row_8 (Nat.le_of_ble_eq_true rfl) rfl ?_
  refine e_aload dX11_row_10 rfl ?_
  refine e_ifnull 42 dX11_row_12 rfl ?_
  have v1 := isF_n H2
  have v2 := isF_nd H2
  have v3 := isF_nu H2
  refine e_iload_n dX11_row_15 rfl ?_
  refine z_iconst (1) dX11_row_16 rfl ?_
  refine z_icmp_lt 42 dX11_row_17 rfl ⟨by omega, by omega⟩ ⟨by omega, by omega⟩ (fun c4 => ?_) (fun c4 => ?_)
  · exfalso; omega
  · skip
    refine e_iload_n dX11_row_20 rfl ?_
    refine z_iconst (5) dX11_row_21 rfl ?_
    refine z_icmp_gt 42 dX11_row_22 rfl ⟨by omega, by omega⟩ ⟨by omega, by omega⟩ (fun c5 => ?_) (fun c5 => ?_)
    · exfalso; omega
    · skip
      refine e_iload_n dX11_row_25 rfl ?_
      refine z_iconst (-1) dX11_row_26 rfl ?_
      refine z_icmp_eq 44 dX11_row_27 rfl ⟨by omega, by omega⟩ ⟨by omega, by omega⟩ (fun c6 => ?_) (fun c6 => ?_)
      · skip
        refine e_aload_n dX11_row_44 rfl ?_
        refine e_get (.ref (x + 100)) dX11_row_45 tf_11_37 (congrArg Prod.fst (bk_s0 hk)) (congrArg va_rf (bk_r0_4 hk)) ?_
        refine e_aload dX11_row_48 rfl ?_
        refine e_iload_n dX11_row_50 rfl ?_
        refine e_callV [.ref _, .int _] dX11_row_51 tm_11_127 rfl (Nat.le_of_ble_eq_true rfl) (congrArg Prod.fst (bk_s100 hk)) (Nat.le_of_ble_eq_true rfl) (Nat.le_refl _) (Nat.le_refl _) rfl (zp_X5_pick_1 (bk_ma100 hk) k1 H2 (by omega) (by omega) (fun  h7 f8 p9 p10 p11 => ?_))
        have k12 := bk_q (frm_s f8) hk
        have k13 := lk_q (frm_s f8) k1
        have H14 := clsT_c f8 (fun a k q1 q2 => by omega) HX
        have H15 := isF_c f8 (fun a k q1 q2 => by omega) H2
        have FR16 := frm_t FR0 (frm_m (S' := (fun a i => x + 56 ≤ a ∧ a < x + 157)) f8 (fun a k q => by omega))
        obtain ⟨r, MR, SR⟩ := p11
        have RR : rwR (sG σ f) 1 r := ⟨MR.1.1, Or.inr (Or.inl ⟨by omega, SR⟩)⟩
        refine e_iload_n dX11_row_54 rfl ?_
        refine z_iconst (-1) dX11_row_55 rfl ?_
        refine z_icmp_ne 69 dX11_row_56 rfl ⟨by omega, by omega⟩ ⟨by omega, by omega⟩ (fun c17 => ?_) (fun c17 => ?_)
        · skip
          refine e_aload_n dX11_row_69 rfl ?_
          refine e_get (.ref (x + 100)) dX11_row_70 tf_11_37 (congrArg Prod.fst (bk_s0 k12)) (congrArg va_rf (bk_r0_4 k12)) ?_
          refine e_iload_n dX11_row_73 rfl ?_
          refine e_callV [.int _] dX11_row_74 tm_11_148 rfl (Nat.le_of_ble_eq_true rfl) (congrArg Prod.fst (bk_s100 k12)) (Nat.le_of_ble_eq_true rfl) (Nat.le_refl _) (Nat.le_refl _) rfl (zp_X5_upOf (bk_ma100 k12) MR k ⟨by omega, by omega⟩ (by omega) ?_)
          refine z_iret dX11_row_77 rfl ⟨rfl, ?_⟩
          refine kq _ ?_ _ FR16
          first | (exfalso; omega) | exact Or.inr ⟨by omega, rfl⟩ | exact Or.inl ⟨by omega, r, RR, by rw [if_pos (by omega)]⟩ | exact Or.inl ⟨by omega, r, RR, by rw [if_neg (by omega)]⟩
        · skip
          refine e_aload_n dX11_row_59 rfl ?_
          refine e_get (.ref (x + 100)) dX11_row_60 tf_11_37 (congrArg Prod.fst (bk_s0 k12)) (congrArg va_rf (bk_r0_4 k12)) ?_
          refine e_callV [] dX11_row_63 tm_11_145 rfl (Nat.le_of_ble_eq_true rfl) (congrArg Prod.fst (bk_s100 k12)) (Nat.le_of_ble_eq_true rfl) (Nat.le_refl _) (Nat.le_refl _) rfl (zp_X5_couples (bk_ma100 k12) p9 MR ?_)
          have y18 := inR_b r
          refine e_goto 77 dX11_row_66 rfl ?_
          refine z_iret dX11_row_77 rfl ⟨rfl, ?_⟩
          refine kq _ ?_ _ FR16
          first | (exfalso; omega) | exact Or.inr ⟨by omega, rfl⟩ | exact Or.inl ⟨by omega, r, RR, by rw [if_pos (by omega)]⟩ | exact Or.inl ⟨by omega, r, RR, by rw [if_neg (by omega)]⟩
      · skip
        refine e_aload dX11_row_30 rfl ?_
        refine e_get (.ref ((fAt (x + 1) f) + 1)) dX11_row_32 tf_11_135 (congrArg Prod.fst (fg_s0 k1)) (congrArg va_rf (fg_r0_0 k1)) ?_
        refine e_iload_n dX11_row_35 rfl ?_
        refine e_callV [.int _] dX11_row_36 tm_11_139 rfl (Nat.le_of_ble_eq_true rfl) (congrArg Prod.fst (fg_s1 k1)) (Nat.le_of_ble_eq_true rfl) (Nat.le_refl _) (Nat.le_refl _) rfl (zp_X0_has (fg_bl1 k1) k ⟨by omega, by omega⟩ ?_)
        refine z_ifb_ne 44 dX11_row_39 rfl (fun c19 => ?_) (fun c19 => ?_)
        · skip
          refine e_aload_n dX11_row_44 rfl ?_
          refine e_get (.ref (x + 100)) dX11_row_45 tf_11_37 (congrArg Prod.fst (bk_s0 hk)) (congrArg va_rf (bk_r0_4 hk)) ?_
          refine e_aload dX11_row_48 rfl ?_
          refine e_iload_n dX11_row_50 rfl ?_
          refine e_callV [.ref _, .int _] dX11_row_51 tm_11_127 rfl (Nat.le_of_ble_eq_true rfl) (congrArg Prod.fst (bk_s100 hk)) (Nat.le_of_ble_eq_true rfl) (Nat.le_refl _) (Nat.le_refl _) rfl (zp_X5_pick_1 (bk_ma100 hk) k1 H2 (by omega) (by omega) (fun  h20 f21 p22 p23 p24 => ?_))
          have k25 := bk_q (frm_s f21) hk
          have k26 := lk_q (frm_s f21) k1
          have H27 := clsT_c f21 (fun a k q1 q2 => by omega) HX
          have H28 := isF_c f21 (fun a k q1 q2 => by omega) H2
          have FR29 := frm_t FR0 (frm_m (S' := (fun a i => x + 56 ≤ a ∧ a < x + 157)) f21 (fun a k q => by omega))
          obtain ⟨r, MR, SR⟩ := p24
          have RR : rwR (sG σ f) 1 r := ⟨MR.1.1, Or.inr (Or.inl ⟨by omega, SR⟩)⟩
          refine e_iload_n dX11_row_54 rfl ?_
          refine z_iconst (-1) dX11_row_55 rfl ?_
          refine z_icmp_ne 69 dX11_row_56 rfl ⟨by omega, by omega⟩ ⟨by omega, by omega⟩ (fun c30 => ?_) (fun c30 => ?_)
          · skip
            refine e_aload_n dX11_row_69 rfl ?_
            refine e_get (.ref (x + 100)) dX11_row_70 tf_11_37 (congrArg Prod.fst (bk_s0 k25)) (congrArg va_rf (bk_r0_4 k25)) ?_
            refine e_iload_n dX11_row_73 rfl ?_
            refine e_callV [.int _] dX11_row_74 tm_11_148 rfl (Nat.le_of_ble_eq_true rfl) (congrArg Prod.fst (bk_s100 k25)) (Nat.le_of_ble_eq_true rfl) (Nat.le_refl _) (Nat.le_refl _) rfl (zp_X5_upOf (bk_ma100 k25) MR k ⟨by omega, by omega⟩ (by omega) ?_)
            refine z_iret dX11_row_77 rfl ⟨rfl, ?_⟩
            refine kq _ ?_ _ FR29
            first | (exfalso; omega) | exact Or.inr ⟨by omega, rfl⟩ | exact Or.inl ⟨by omega, r, RR, by rw [if_pos (by omega)]⟩ | exact Or.inl ⟨by omega, r, RR, by rw [if_neg (by omega)]⟩
          · skip
            refine e_aload_n dX11_row_59 rfl ?_
            refine e_get (.ref (x + 100)) dX11_row_60 tf_11_37 (congrArg Prod.fst (bk_s0 k25)) (congrArg va_rf (bk_r0_4 k25)) ?_
            refine e_callV [] dX11_row_63 tm_11_145 rfl (Nat.le_of_ble_eq_true rfl) (congrArg Prod.fst (bk_s100 k25)) (Nat.le_of_ble_eq_true rfl) (Nat.le_refl _) (Nat.le_refl _) rfl (zp_X5_couples (bk_ma100 k25) p22 MR ?_)
            have y31 := inR_b r
            refine e_goto 77 dX11_row_66 rfl ?_
            refine z_iret dX11_row_77 rfl ⟨rfl, ?_⟩
            refine kq _ ?_ _ FR29
            first | (exfalso; omega) | exact Or.inr ⟨by omega, rfl⟩ | exact Or.inl ⟨by omega, r, RR, by rw [if_pos (by omega)]⟩ | exact Or.inl ⟨by omega, r, RR, by rw [if_neg (by omega)]⟩
        · skip
          refine z_iconst (-1) dX11_row_42 rfl ?_
          refine z_iret dX11_row_43 rfl ⟨rfl, ?_⟩
          refine kq _ ?_ _ FR0
          first | (exfalso; omega) | exact Or.inr ⟨by omega, rfl⟩ | exact Or.inl ⟨by omega, r, RR, by rw [if_pos (by omega)]⟩ | exact Or.inl ⟨by omega, r, RR, by rw [if_neg (by omega)]⟩
set_option maxHeartbeats 1000000 in
theorem zp_X11_moves_1 {ad : mA} {dd : Nat} {h : mH} {Q : mQ} {x : Nat} {σ : Sg} (hk : bk h x) (HX : clsT h (x + 1) σ)  (f : Int) (f_r : -2147483648 ≤ f ∧ f < 2147483648) (p : Prop) [Decidable p] (p1 : 0 ≤ f) (p2 : f < cn σ 0) (kq : ∀ v : Int, (∃ r, rwR (sG σ f) 1 r ∧ v = if p then mvR (sG σ f) r else mvP (sG σ f) r) → ∀ h1, frm (fun a i => x + 56 ≤ a ∧ a < x + 157) h h1 → Q (some (.int (zI v))) h1) : mCal TB0 ad (dd + 5) M_X11_moves [.ref x, .int (zI f), .int (zI 1), .int (zI (bZ p))] h 0 0 Q := by
  refine ⟨Nat.le_of_ble_eq_true rfl, ?_⟩
  show mEv TB0 ad M_X11_moves (dd + 5) (0, 0) (mCal TB0 ad (dd + 4)) (fun v h' z => z.1 = 0 ∧ Q v h') 0 [some (.ref x), some (.int (zI f)), some (.int (zI 1)), some (.int (zI (bZ p))), none] [] h (0, 0)
  have FR0 : frm (fun a i => x + 56 ≤ a ∧ a < x + 157) h h := frm_0 h
  have w1 := wS_n (clsT_w HX)
  have W := (clsT_w HX).2.2.1 f p1 p2
  have nW : (0 ≤ nd (sG σ f) ∧ nd (sG σ f) ≤ 6) ∧ (0 ≤ nu (sG σ f) ∧ nu (sG σ f) ≤ 6) := ⟨W.1.1, W.1.2.1⟩
  refine e_aload_n dX11_moves_0 rfl ?_
  refine e_get (.ref (x + 1)) dX11_moves_1 tf_11_10 (congrArg Prod.fst (bk_s0 hk)) (congrArg va_rf (bk_r0_0 hk)) ?_
  refine e_iload_n dX11_moves_4 rfl ?_
  refine e_callV [.int _] dX11_moves_5 tm_11_94 rfl (Nat.le_of_ble_eq_true rfl) (congrArg Prod.fst (bk_s1 hk)) (Nat.le_of_ble_eq_true rfl) (Nat.le_refl _) (Nat.le_refl _) rfl (zp_X8_forgeAt_in (bk_td1 hk) HX f ⟨by omega, by omega⟩ (by omega) (by omega) ?_)
  have k1 := fAt_k (bk_td1 hk) f
  have H2 := clsT_F HX (show 0 ≤ f by omega) (by omega)
  have y3 := fAt_b (x + 1) f
  refine e_astore (L' := [_, _, _, _, _]) dX11_moves_8 (Nat.le_of_ble_eq_true rfl) rfl ?_
  refine e_aload dX11_moves_10 rfl ?_
  refine e_ifnull 25 dX11_moves_12 rfl ?_
  refine e_iload_n dX11_moves_15 rfl ?_
  refine z_iconst (1) dX11_moves_16 rfl ?_
  refine z_icmp_lt 25 dX11_moves_17 rfl ⟨by omega, by omega⟩ ⟨by omega, by omega⟩ (fun c4 => ?_) (fun c4 => ?_)
  · exfalso; omega
  · skip
    refine e_iload_n dX11_moves_20 rfl ?_
    refine z_iconst (5) dX11_moves_21 rfl ?_
    refine z_icmp_le 27 dX11_moves_22 rfl ⟨by omega, by omega⟩ ⟨by omega, by omega⟩ (fun c5 => ?_) (fun c5 => ?_)
    · skip
      refine e_aload_n dX11_moves_27 rfl ?_
      refine e_get (.ref (x + 100)) dX11_moves_28 tf_11_37 (congrArg Prod.fst (bk_s0 hk)) (congrArg va_rf (bk_r0_4 hk)) ?_
      refine e_aload dX11_moves_31 rfl ?_
      refine e_iload_n dX11_moves_33 rfl ?_
      refine e_callV [.ref _, .int _] dX11_moves_34 tm_11_127 rfl (Nat.le_of_ble_eq_true rfl) (congrArg Prod.fst (bk_s100 hk)) (Nat.le_of_ble_eq_true rfl) (Nat.le_refl _) (Nat.le_refl _) rfl (zp_X5_pick_1 (bk_ma100 hk) k1 H2 (by omega) (by omega) (fun  h6 f7 p8 p9 p10 => ?_))
      have k11 := bk_q (frm_s f7) hk
      have k12 := lk_q (frm_s f7) k1
      have H13 := clsT_c f7 (fun a k q1 q2 => by omega) HX
      have H14 := isF_c f7 (fun a k q1 q2 => by omega) H2
      have FR15 := frm_t FR0 (frm_m (S' := (fun a i => x + 56 ≤ a ∧ a < x + 157)) f7 (fun a k q => by omega))
      obtain ⟨r, MR, SR⟩ := p10
      have RR : rwR (sG σ f) 1 r := ⟨MR.1.1, Or.inr (Or.inl ⟨by omega, SR⟩)⟩
      refine e_iload_n dX11_moves_37 rfl ?_
      refine z_ifb_eq 51 dX11_moves_38 rfl (fun c16 => ?_) (fun c16 => ?_)
      · skip
        refine e_aload_n dX11_moves_51 rfl ?_
        refine e_get (.ref (x + 100)) dX11_moves_52 tf_11_37 (congrArg Prod.fst (bk_s0 k11)) (congrArg va_rf (bk_r0_4 k11)) ?_
        refine e_callV [] dX11_moves_55 tm_11_266 rfl (Nat.le_of_ble_eq_true rfl) (congrArg Prod.fst (bk_s100 k11)) (Nat.le_of_ble_eq_true rfl) (Nat.le_refl _) (Nat.le_refl _) rfl (zp_X5_toPart (bk_ma100 k11) p8 p9 MR ?_)
        refine z_iret dX11_moves_58 rfl ⟨rfl, ?_⟩
        refine kq _ ?_ _ FR15
        first | exact ⟨r, RR, by rw [if_pos (by assumption)]⟩ | exact ⟨r, RR, by rw [if_neg (by assumption)]⟩
      · skip
        refine e_aload_n dX11_moves_41 rfl ?_
        refine e_get (.ref (x + 100)) dX11_moves_42 tf_11_37 (congrArg Prod.fst (bk_s0 k11)) (congrArg va_rf (bk_r0_4 k11)) ?_
        refine e_callV [] dX11_moves_45 tm_11_263 rfl (Nat.le_of_ble_eq_true rfl) (congrArg Prod.fst (bk_s100 k11)) (Nat.le_of_ble_eq_true rfl) (Nat.le_refl _) (Nat.le_refl _) rfl (zp_X5_toRivet (bk_ma100 k11) p8 p9 MR ?_)
        refine e_goto 58 dX11_moves_48 rfl ?_
        refine z_iret dX11_moves_58 rfl ⟨rfl, ?_⟩
        refine kq _ ?_ _ FR15
        first | exact ⟨r, RR, by rw [if_pos (by assumption)]⟩ | exact ⟨r, RR, by rw [if_neg (by assumption)]⟩
    · exfalso; omega
set_option maxHeartbeats 1000000 in
theorem zp_X11_leaving_2 {ad : mA} {dd : Nat} {h : mH} {Q : mQ} {x : Nat} {σ : Sg} (hk : bk h x) (HX : clsT h (x + 1) σ)  (f : Int) (f_r : -2147483648 ≤ f ∧ f < 2147483648) (p1 : 0 ≤ f) (p2 : f < cn σ 0) (kq : ∀ v : Int, (∃ r, rwR (sG σ f) 2 r ∧ v = lvN (sG σ f) r) → ∀ h1, frm (fun a i => x + 56 ≤ a ∧ a < x + 157) h h1 → Q (some (.int (zI v))) h1) : mCal TB0 ad (dd + 5) M_X11_leaving [.ref x, .int (zI f), .int (zI 2)] h 0 0 Q := by
  refine ⟨Nat.le_of_ble_eq_true rfl, ?_⟩
  show mEv TB0 ad M_X11_leaving (dd + 5) (0, 0) (mCal TB0 ad (dd + 4)) (fun v h' z => z.1 = 0 ∧ Q v h') 0 [some (.ref x), some (.int (zI f)), some (.int (zI 2)), none] [] h (0, 0)
  have FR0 : frm (fun a i => x + 56 ≤ a ∧ a < x + 157) h h := frm_0 h
  have w1 := wS_n (clsT_w HX)
  have W := (clsT_w HX).2.2.1 f p1 p2
  have nW : (0 ≤ nd (sG σ f) ∧ nd (sG σ f) ≤ 6) ∧ (0 ≤ nu (sG σ f) ∧ nu (sG σ f) ≤ 6) := ⟨W.1.1, W.1.2.1⟩
  refine e_aload_n dX11_leaving_0 rfl ?_
  refine e_get (.ref (x + 1)) dX11_leaving_1 tf_11_10 (congrArg Prod.fst (bk_s0 hk)) (congrArg va_rf (bk_r0_0 hk)) ?_
  refine e_iload_n dX11_leaving_4 rfl ?_
  refine e_callV [.int _] dX11_leaving_5 tm_11_94 rfl (Nat.le_of_ble_eq_true rfl) (congrArg Prod.fst (bk_s1 hk)) (Nat.le_of_ble_eq_true rfl) (Nat.le_refl _) (Nat.le_refl _) rfl (zp_X8_forgeAt_in (bk_td1 hk) HX f ⟨by omega, by omega⟩ (by omega) (by omega) ?_)
  have k1 := fAt_k (bk_td1 hk) f
  have H2 := clsT_F HX (show 0 ≤ f by omega) (by omega)
  have y3 := fAt_b (x + 1) f
  refine e_astore_n (L' := [_, _, _, _]) dX11_leaving_8 (Nat.le_of_ble_eq_true rfl) rfl ?_
  refine e_aload_n dX11_leaving_9 rfl ?_
  refine e_ifnull 22 dX11_leaving_10 rfl ?_
  refine e_iload_n dX11_leaving_13 rfl ?_
  refine z_if_lt 22 dX11_leaving_14 rfl ⟨by omega, by omega⟩ (fun c4 => ?_) (fun c4 => ?_)
  · exfalso; omega
  · skip
    refine e_iload_n dX11_leaving_17 rfl ?_
    refine z_iconst (5) dX11_leaving_18 rfl ?_
    refine z_icmp_le 24 dX11_leaving_19 rfl ⟨by omega, by omega⟩ ⟨by omega, by omega⟩ (fun c5 => ?_) (fun c5 => ?_)
    · skip
      refine e_aload_n dX11_leaving_24 rfl ?_
      refine e_get (.ref (x + 100)) dX11_leaving_25 tf_11_37 (congrArg Prod.fst (bk_s0 hk)) (congrArg va_rf (bk_r0_4 hk)) ?_
      refine e_aload_n dX11_leaving_28 rfl ?_
      refine e_iload_n dX11_leaving_29 rfl ?_
      refine e_callV [.ref _, .int _] dX11_leaving_30 tm_11_127 rfl (Nat.le_of_ble_eq_true rfl) (congrArg Prod.fst (bk_s100 hk)) (Nat.le_of_ble_eq_true rfl) (Nat.le_refl _) (Nat.le_refl _) rfl (zp_X5_pick_2 (bk_ma100 hk) k1 H2 (by omega) (by omega) (fun  h6 f7 p8 p9 p10 => ?_))
      have k11 := bk_q (frm_s f7) hk
      have k12 := lk_q (frm_s f7) k1
      have H13 := clsT_c f7 (fun a k q1 q2 => by omega) HX
      have H14 := isF_c f7 (fun a k q1 q2 => by omega) H2
      have FR15 := frm_t FR0 (frm_m (S' := (fun a i => x + 56 ≤ a ∧ a < x + 157)) f7 (fun a k q => by omega))
      obtain ⟨r, MR, SR⟩ := p10
      have RR : rwR (sG σ f) 2 r := ⟨MR.1.1, Or.inr (Or.inl ⟨by omega, SR⟩)⟩
      refine e_aload_n dX11_leaving_33 rfl ?_
      refine e_get (.ref (x + 100)) dX11_leaving_34 tf_11_37 (congrArg Prod.fst (bk_s0 k11)) (congrArg va_rf (bk_r0_4 k11)) ?_
      refine e_callV [] dX11_leaving_37 tm_11_131 rfl (Nat.le_of_ble_eq_true rfl) (congrArg Prod.fst (bk_s100 k11)) (Nat.le_of_ble_eq_true rfl) (Nat.le_refl _) (Nat.le_refl _) rfl (zp_X5_leavingCouples (bk_ma100 k11) p8 p9 MR ?_)
      have y16 := lvN_b (show (0 ≤ nd (sG σ f) ∧ nd (sG σ f) ≤ 6) ∧ (0 ≤ nu (sG σ f) ∧ nu (sG σ f) ≤ 6) by omega) r
      refine z_iret dX11_leaving_40 rfl ⟨rfl, ?_⟩
      refine kq _ ?_ _ FR15
      exact ⟨r, RR, rfl⟩
    · exfalso; omega
set_option maxHeartbeats 1000000 in
theorem zp_X11_row_2 {ad : mA} {dd : Nat} {h : mH} {Q : mQ} {x : Nat} {σ : Sg} (hk : bk h x) (HX : clsT h (x + 1) σ)  (f : Int) (f_r : -2147483648 ≤ f ∧ f < 2147483648) (k : Int) (k_r : -2147483648 ≤ k ∧ k < 2147483648) (p1 : 0 ≤ f) (p2 : f < cn σ 0) (kq : ∀ v : Int, (((-1 ≤ k ∧ k < nd (sG σ f)) ∧ ∃ r, rwR (sG σ f) 2 r ∧ v = if k = -1 then inR r else r k) ∨ (¬ (-1 ≤ k ∧ k < nd (sG σ f)) ∧ v = -1)) → ∀ h1, frm (fun a i => x + 56 ≤ a ∧ a < x + 157) h h1 → Q (some (.int (zI v))) h1) : mCal TB0 ad (dd + 5) M_X11_row [.ref x, .int (zI f), .int (zI 2), .int (zI k)] h 0 0 Q := by
  refine ⟨Nat.le_of_ble_eq_true rfl, ?_⟩
  show mEv TB0 ad M_X11_row (dd + 5) (0, 0) (mCal TB0 ad (dd + 4)) (fun v h' z => z.1 = 0 ∧ Q v h') 0 [some (.ref x), some (.int (zI f)), some (.int (zI 2)), some (.int (zI k)), none] [] h (0, 0)
  have FR0 : frm (fun a i => x + 56 ≤ a ∧ a < x + 157) h h := frm_0 h
  have w1 := wS_n (clsT_w HX)
  have W := (clsT_w HX).2.2.1 f p1 p2
  have nW : (0 ≤ nd (sG σ f) ∧ nd (sG σ f) ≤ 6) ∧ (0 ≤ nu (sG σ f) ∧ nu (sG σ f) ≤ 6) := ⟨W.1.1, W.1.2.1⟩
  refine e_aload_n dX11_row_0 rfl ?_
  refine e_get (.ref (x + 1)) dX11_row_1 tf_11_10 (congrArg Prod.fst (bk_s0 hk)) (congrArg va_rf (bk_r0_0 hk)) ?_
  refine e_iload_n dX11_row_4 rfl ?_
  refine e_callV [.int _] dX11_row_5 tm_11_94 rfl (Nat.le_of_ble_eq_true rfl) (congrArg Prod.fst (bk_s1 hk)) (Nat.le_of_ble_eq_true rfl) (Nat.le_refl _) (Nat.le_refl _) rfl (zp_X8_forgeAt_in (bk_td1 hk) HX f ⟨by omega, by omega⟩ (by omega) (by omega) ?_)
  have k1 := fAt_k (bk_td1 hk) f
  have H2 := clsT_F HX (show 0 ≤ f by omega) (by omega)
  have y3 := fAt_b (x + 1) f
  refine e_astore (L' := [_, _, _, _, _]) dX11_row_8 (Nat.le_of_ble_eq_true rfl) rfl ?_
  refine e_aload dX11_row_10 rfl ?_
  refine e_ifnull 42 dX11_row_12 rfl ?_
  have v1 := isF_n H2
  have v2 := isF_nd H2
  have v3 := isF_nu H2
  refine e_iload_n dX11_row_15 rfl ?_
  refine z_iconst (1) dX11_row_16 rfl ?_
  refine z_icmp_lt 42 dX11_row_17 rfl ⟨by omega, by omega⟩ ⟨by omega, by omega⟩ (fun c4 => ?_) (fun c4 => ?_)
  · exfalso; omega
  · skip
    refine e_iload_n dX11_row_20 rfl ?_
    refine z_iconst (5) dX11_row_21 rfl ?_
    refine z_icmp_gt 42 dX11_row_22 rfl ⟨by omega, by omega⟩ ⟨by omega, by omega⟩ (fun c5 => ?_) (fun c5 => ?_)
    · exfalso; omega
    · skip
      refine e_iload_n dX11_row_25 rfl ?_
      refine z_iconst (-1) dX11_row_26 rfl ?_
      refine z_icmp_eq 44 dX11_row_27 rfl ⟨by omega, by omega⟩ ⟨by omega, by omega⟩ (fun c6 => ?_) (fun c6 => ?_)
      · skip
        refine e_aload_n dX11_row_44 rfl ?_
        refine e_get (.ref (x + 100)) dX11_row_45 tf_11_37 (congrArg Prod.fst (bk_s0 hk)) (congrArg va_rf (bk_r0_4 hk)) ?_
        refine e_aload dX11_row_48 rfl ?_
        refine e_iload_n dX11_row_50 rfl ?_
        refine e_callV [.ref _, .int _] dX11_row_51 tm_11_127 rfl (Nat.le_of_ble_eq_true rfl) (congrArg Prod.fst (bk_s100 hk)) (Nat.le_of_ble_eq_true rfl) (Nat.le_refl _) (Nat.le_refl _) rfl (zp_X5_pick_2 (bk_ma100 hk) k1 H2 (by omega) (by omega) (fun  h7 f8 p9 p10 p11 => ?_))
        have k12 := bk_q (frm_s f8) hk
        have k13 := lk_q (frm_s f8) k1
        have H14 := clsT_c f8 (fun a k q1 q2 => by omega) HX
        have H15 := isF_c f8 (fun a k q1 q2 => by omega) H2
        have FR16 := frm_t FR0 (frm_m (S' := (fun a i => x + 56 ≤ a ∧ a < x + 157)) f8 (fun a k q => by omega))
        obtain ⟨r, MR, SR⟩ := p11
        have RR : rwR (sG σ f) 2 r := ⟨MR.1.1, Or.inr (Or.inl ⟨by omega, SR⟩)⟩
        refine e_iload_n dX11_row_54 rfl ?_
        refine z_iconst (-1) dX11_row_55 rfl ?_
        refine z_icmp_ne 69 dX11_row_56 rfl ⟨by omega, by omega⟩ ⟨by omega, by omega⟩ (fun c17 => ?_) (fun c17 => ?_)
        · skip
          refine e_aload_n dX11_row_69 rfl ?_
          refine e_get (.ref (x + 100)) dX11_row_70 tf_11_37 (congrArg Prod.fst (bk_s0 k12)) (congrArg va_rf (bk_r0_4 k12)) ?_
          refine e_iload_n dX11_row_73 rfl ?_
          refine e_callV [.int _] dX11_row_74 tm_11_148 rfl (Nat.le_of_ble_eq_true rfl) (congrArg Prod.fst (bk_s100 k12)) (Nat.le_of_ble_eq_true rfl) (Nat.le_refl _) (Nat.le_refl _) rfl (zp_X5_upOf (bk_ma100 k12) MR k ⟨by omega, by omega⟩ (by omega) ?_)
          refine z_iret dX11_row_77 rfl ⟨rfl, ?_⟩
          refine kq _ ?_ _ FR16
          first | (exfalso; omega) | exact Or.inr ⟨by omega, rfl⟩ | exact Or.inl ⟨by omega, r, RR, by rw [if_pos (by omega)]⟩ | exact Or.inl ⟨by omega, r, RR, by rw [if_neg (by omega)]⟩
        · skip
          refine e_aload_n dX11_row_59 rfl ?_
          refine e_get (.ref (x + 100)) dX11_row_60 tf_11_37 (congrArg Prod.fst (bk_s0 k12)) (congrArg va_rf (bk_r0_4 k12)) ?_
          refine e_callV [] dX11_row_63 tm_11_145 rfl (Nat.le_of_ble_eq_true rfl) (congrArg Prod.fst (bk_s100 k12)) (Nat.le_of_ble_eq_true rfl) (Nat.le_refl _) (Nat.le_refl _) rfl (zp_X5_couples (bk_ma100 k12) p9 MR ?_)
          have y18 := inR_b r
          refine e_goto 77 dX11_row_66 rfl ?_
          refine z_iret dX11_row_77 rfl ⟨rfl, ?_⟩
          refine kq _ ?_ _ FR16
          first | (exfalso; omega) | exact Or.inr ⟨by omega, rfl⟩ | exact Or.inl ⟨by omega, r, RR, by rw [if_pos (by omega)]⟩ | exact Or.inl ⟨by omega, r, RR, by rw [if_neg (by omega)]⟩
      · skip
        refine e_aload dX11_row_30 rfl ?_
        refine e_get (.ref ((fAt (x + 1) f) + 1)) dX11_row_32 tf_11_135 (congrArg Prod.fst (fg_s0 k1)) (congrArg va_rf (fg_r0_0 k1)) ?_
        refine e_iload_n dX11_row_35 rfl ?_
        refine e_callV [.int _] dX11_row_36 tm_11_139 rfl (Nat.le_of_ble_eq_true rfl) (congrArg Prod.fst (fg_s1 k1)) (Nat.le_of_ble_eq_true rfl) (Nat.le_refl _) (Nat.le_refl _) rfl (zp_X0_has (fg_bl1 k1) k ⟨by omega, by omega⟩ ?_)
        refine z_ifb_ne 44 dX11_row_39 rfl (fun c19 => ?_) (fun c19 => ?_)
        · skip
          refine e_aload_n dX11_row_44 rfl ?_
          refine e_get (.ref (x + 100)) dX11_row_45 tf_11_37 (congrArg Prod.fst (bk_s0 hk)) (congrArg va_rf (bk_r0_4 hk)) ?_
          refine e_aload dX11_row_48 rfl ?_
          refine e_iload_n dX11_row_50 rfl ?_
          refine e_callV [.ref _, .int _] dX11_row_51 tm_11_127 rfl (Nat.le_of_ble_eq_true rfl) (congrArg Prod.fst (bk_s100 hk)) (Nat.le_of_ble_eq_true rfl) (Nat.le_refl _) (Nat.le_refl _) rfl (zp_X5_pick_2 (bk_ma100 hk) k1 H2 (by omega) (by omega) (fun  h20 f21 p22 p23 p24 => ?_))
          have k25 := bk_q (frm_s f21) hk
          have k26 := lk_q (frm_s f21) k1
          have H27 := clsT_c f21 (fun a k q1 q2 => by omega) HX
          have H28 := isF_c f21 (fun a k q1 q2 => by omega) H2
          have FR29 := frm_t FR0 (frm_m (S' := (fun a i => x + 56 ≤ a ∧ a < x + 157)) f21 (fun a k q => by omega))
          obtain ⟨r, MR, SR⟩ := p24
          have RR : rwR (sG σ f) 2 r := ⟨MR.1.1, Or.inr (Or.inl ⟨by omega, SR⟩)⟩
          refine e_iload_n dX11_row_54 rfl ?_
          refine z_iconst (-1) dX11_row_55 rfl ?_
          refine z_icmp_ne 69 dX11_row_56 rfl ⟨by omega, by omega⟩ ⟨by omega, by omega⟩ (fun c30 => ?_) (fun c30 => ?_)
          · skip
            refine e_aload_n dX11_row_69 rfl ?_
            refine e_get (.ref (x + 100)) dX11_row_70 tf_11_37 (congrArg Prod.fst (bk_s0 k25)) (congrArg va_rf (bk_r0_4 k25)) ?_
            refine e_iload_n dX11_row_73 rfl ?_
            refine e_callV [.int _] dX11_row_74 tm_11_148 rfl (Nat.le_of_ble_eq_true rfl) (congrArg Prod.fst (bk_s100 k25)) (Nat.le_of_ble_eq_true rfl) (Nat.le_refl _) (Nat.le_refl _) rfl (zp_X5_upOf (bk_ma100 k25) MR k ⟨by omega, by omega⟩ (by omega) ?_)
            refine z_iret dX11_row_77 rfl ⟨rfl, ?_⟩
            refine kq _ ?_ _ FR29
            first | (exfalso; omega) | exact Or.inr ⟨by omega, rfl⟩ | exact Or.inl ⟨by omega, r, RR, by rw [if_pos (by omega)]⟩ | exact Or.inl ⟨by omega, r, RR, by rw [if_neg (by omega)]⟩
          · skip
            refine e_aload_n dX11_row_59 rfl ?_
            refine e_get (.ref (x + 100)) dX11_row_60 tf_11_37 (congrArg Prod.fst (bk_s0 k25)) (congrArg va_rf (bk_r0_4 k25)) ?_
            refine e_callV [] dX11_row_63 tm_11_145 rfl (Nat.le_of_ble_eq_true rfl) (congrArg Prod.fst (bk_s100 k25)) (Nat.le_of_ble_eq_true rfl) (Nat.le_refl _) (Nat.le_refl _) rfl (zp_X5_couples (bk_ma100 k25) p22 MR ?_)
            have y31 := inR_b r
            refine e_goto 77 dX11_row_66 rfl ?_
            refine z_iret dX11_row_77 rfl ⟨rfl, ?_⟩
            refine kq _ ?_ _ FR29
            first | (exfalso; omega) | exact Or.inr ⟨by omega, rfl⟩ | exact Or.inl ⟨by omega, r, RR, by rw [if_pos (by omega)]⟩ | exact Or.inl ⟨by omega, r, RR, by rw [if_neg (by omega)]⟩
        · skip
          refine z_iconst (-1) dX11_row_42 rfl ?_
          refine z_iret dX11_row_43 rfl ⟨rfl, ?_⟩
          refine kq _ ?_ _ FR0
          first | (exfalso; omega) | exact Or.inr ⟨by omega, rfl⟩ | exact Or.inl ⟨by omega, r, RR, by rw [if_pos (by omega)]⟩ | exact Or.inl ⟨by omega, r, RR, by rw [if_neg (by omega)]⟩
set_option maxHeartbeats 1000000 in
theorem zp_X11_moves_2 {ad : mA} {dd : Nat} {h : mH} {Q : mQ} {x : Nat} {σ : Sg} (hk : bk h x) (HX : clsT h (x + 1) σ)  (f : Int) (f_r : -2147483648 ≤ f ∧ f < 2147483648) (p : Prop) [Decidable p] (p1 : 0 ≤ f) (p2 : f < cn σ 0) (kq : ∀ v : Int, (∃ r, rwR (sG σ f) 2 r ∧ v = if p then mvR (sG σ f) r else mvP (sG σ f) r) → ∀ h1, frm (fun a i => x + 56 ≤ a ∧ a < x + 157) h h1 → Q (some (.int (zI v))) h1) : mCal TB0 ad (dd + 5) M_X11_moves [.ref x, .int (zI f), .int (zI 2), .int (zI (bZ p))] h 0 0 Q := by
  refine ⟨Nat.le_of_ble_eq_true rfl, ?_⟩
  show mEv TB0 ad M_X11_moves (dd + 5) (0, 0) (mCal TB0 ad (dd + 4)) (fun v h' z => z.1 = 0 ∧ Q v h') 0 [some (.ref x), some (.int (zI f)), some (.int (zI 2)), some (.int (zI (bZ p))), none] [] h (0, 0)
  have FR0 : frm (fun a i => x + 56 ≤ a ∧ a < x + 157) h h := frm_0 h
  have w1 := wS_n (clsT_w HX)
  have W := (clsT_w HX).2.2.1 f p1 p2
  have nW : (0 ≤ nd (sG σ f) ∧ nd (sG σ f) ≤ 6) ∧ (0 ≤ nu (sG σ f) ∧ nu (sG σ f) ≤ 6) := ⟨W.1.1, W.1.2.1⟩
  refine e_aload_n dX11_moves_0 rfl ?_
  refine e_get (.ref (x + 1)) dX11_moves_1 tf_11_10 (congrArg Prod.fst (bk_s0 hk)) (congrArg va_rf (bk_r0_0 hk)) ?_
  refine e_iload_n dX11_moves_4 rfl ?_
  refine e_callV [.int _] dX11_moves_5 tm_11_94 rfl (Nat.le_of_ble_eq_true rfl) (congrArg Prod.fst (bk_s1 hk)) (Nat.le_of_ble_eq_true rfl) (Nat.le_refl _) (Nat.le_refl _) rfl (zp_X8_forgeAt_in (bk_td1 hk) HX f ⟨by omega, by omega⟩ (by omega) (by omega) ?_)
  have k1 := fAt_k (bk_td1 hk) f
  have H2 := clsT_F HX (show 0 ≤ f by omega) (by omega)
  have y3 := fAt_b (x + 1) f
  refine e_astore (L' := [_, _, _, _, _]) dX11_moves_8 (Nat.le_of_ble_eq_true rfl) rfl ?_
  refine e_aload dX11_moves_10 rfl ?_
  refine e_ifnull 25 dX11_moves_12 rfl ?_
  refine e_iload_n dX11_moves_15 rfl ?_
  refine z_iconst (1) dX11_moves_16 rfl ?_
  refine z_icmp_lt 25 dX11_moves_17 rfl ⟨by omega, by omega⟩ ⟨by omega, by omega⟩ (fun c4 => ?_) (fun c4 => ?_)
  · exfalso; omega
  · skip
    refine e_iload_n dX11_moves_20 rfl ?_
    refine z_iconst (5) dX11_moves_21 rfl ?_
    refine z_icmp_le 27 dX11_moves_22 rfl ⟨by omega, by omega⟩ ⟨by omega, by omega⟩ (fun c5 => ?_) (fun c5 => ?_)
    · skip
      refine e_aload_n dX11_moves_27 rfl ?_
      refine e_get (.ref (x + 100)) dX11_moves_28 tf_11_37 (congrArg Prod.fst (bk_s0 hk)) (congrArg va_rf (bk_r0_4 hk)) ?_
      refine e_aload dX11_moves_31 rfl ?_
      refine e_iload_n dX11_moves_33 rfl ?_
      refine e_callV [.ref _, .int _] dX11_moves_34 tm_11_127 rfl (Nat.le_of_ble_eq_true rfl) (congrArg Prod.fst (bk_s100 hk)) (Nat.le_of_ble_eq_true rfl) (Nat.le_refl _) (Nat.le_refl _) rfl (zp_X5_pick_2 (bk_ma100 hk) k1 H2 (by omega) (by omega) (fun  h6 f7 p8 p9 p10 => ?_))
      have k11 := bk_q (frm_s f7) hk
      have k12 := lk_q (frm_s f7) k1
      have H13 := clsT_c f7 (fun a k q1 q2 => by omega) HX
      have H14 := isF_c f7 (fun a k q1 q2 => by omega) H2
      have FR15 := frm_t FR0 (frm_m (S' := (fun a i => x + 56 ≤ a ∧ a < x + 157)) f7 (fun a k q => by omega))
      obtain ⟨r, MR, SR⟩ := p10
      have RR : rwR (sG σ f) 2 r := ⟨MR.1.1, Or.inr (Or.inl ⟨by omega, SR⟩)⟩
      refine e_iload_n dX11_moves_37 rfl ?_
      refine z_ifb_eq 51 dX11_moves_38 rfl (fun c16 => ?_) (fun c16 => ?_)
      · skip
        refine e_aload_n dX11_moves_51 rfl ?_
        refine e_get (.ref (x + 100)) dX11_moves_52 tf_11_37 (congrArg Prod.fst (bk_s0 k11)) (congrArg va_rf (bk_r0_4 k11)) ?_
        refine e_callV [] dX11_moves_55 tm_11_266 rfl (Nat.le_of_ble_eq_true rfl) (congrArg Prod.fst (bk_s100 k11)) (Nat.le_of_ble_eq_true rfl) (Nat.le_refl _) (Nat.le_refl _) rfl (zp_X5_toPart (bk_ma100 k11) p8 p9 MR ?_)
        refine z_iret dX11_moves_58 rfl ⟨rfl, ?_⟩
        refine kq _ ?_ _ FR15
        first | exact ⟨r, RR, by rw [if_pos (by assumption)]⟩ | exact ⟨r, RR, by rw [if_neg (by assumption)]⟩
      · skip
        refine e_aload_n dX11_moves_41 rfl ?_
        refine e_get (.ref (x + 100)) dX11_moves_42 tf_11_37 (congrArg Prod.fst (bk_s0 k11)) (congrArg va_rf (bk_r0_4 k11)) ?_
        refine e_callV [] dX11_moves_45 tm_11_263 rfl (Nat.le_of_ble_eq_true rfl) (congrArg Prod.fst (bk_s100 k11)) (Nat.le_of_ble_eq_true rfl) (Nat.le_refl _) (Nat.le_refl _) rfl (zp_X5_toRivet (bk_ma100 k11) p8 p9 MR ?_)
        refine e_goto 58 dX11_moves_48 rfl ?_
        refine z_iret dX11_moves_58 rfl ⟨rfl, ?_⟩
        refine kq _ ?_ _ FR15
        first | exact ⟨r, RR, by rw [if_pos (by assumption)]⟩ | exact ⟨r, RR, by rw [if_neg (by assumption)]⟩
    · exfalso; omega
set_option maxHeartbeats 400000 in
theorem zp_X11_leaving_bad {ad : mA} {dd : Nat} {h : mH} {Q : mQ} {x : Nat} {σ : Sg} (hk : bk h x) (HX : clsT h (x + 1) σ)  (f : Int) (f_r : -2147483648 ≤ f ∧ f < 2147483648) (q : Int) (q_r : -2147483648 ≤ q ∧ q < 2147483648) (p1 : 0 ≤ f) (p2 : f < cn σ 0) (pq : ¬ (0 ≤ q ∧ q ≤ 5)) (kq : Q (some (.int (zI (-1)))) h) : mCal TB0 ad (dd + 5) M_X11_leaving [.ref x, .int (zI f), .int (zI q)] h 0 0 Q := by
  refine ⟨Nat.le_of_ble_eq_true rfl, ?_⟩
  show mEv TB0 ad M_X11_leaving (dd + 5) (0, 0) (mCal TB0 ad (dd + 4)) (fun v h' z => z.1 = 0 ∧ Q v h') 0 [some (.ref x), some (.int (zI f)), some (.int (zI q)), none] [] h (0, 0)
  have w1 := wS_n (clsT_w HX)
  refine e_aload_n dX11_leaving_0 rfl ?_
  refine e_get (.ref (x + 1)) dX11_leaving_1 tf_11_10 (congrArg Prod.fst (bk_s0 hk)) (congrArg va_rf (bk_r0_0 hk)) ?_
  refine e_iload_n dX11_leaving_4 rfl ?_
  refine e_callV [.int _] dX11_leaving_5 tm_11_94 rfl (Nat.le_of_ble_eq_true rfl) (congrArg Prod.fst (bk_s1 hk)) (Nat.le_of_ble_eq_true rfl) (Nat.le_refl _) (Nat.le_refl _) rfl (zp_X8_forgeAt_in (bk_td1 hk) HX f ⟨by omega, by omega⟩ (by omega) (by omega) ?_)
  have k1 := fAt_k (bk_td1 hk) f
  have H2 := clsT_F HX (show 0 ≤ f by omega) (by omega)
  have y3 := fAt_b (x + 1) f
  refine e_astore_n (L' := [_, _, _, _]) dX11_leaving_8 (Nat.le_of_ble_eq_true rfl) rfl ?_
  refine e_aload_n dX11_leaving_9 rfl ?_
  refine e_ifnull 22 dX11_leaving_10 rfl ?_
  refine e_iload_n dX11_leaving_13 rfl ?_
  refine z_if_lt 22 dX11_leaving_14 rfl ⟨by omega, by omega⟩ (fun c4 => ?_) (fun c4 => ?_)
  · skip
    refine z_iconst (-1) dX11_leaving_22 rfl ?_
    refine z_iret dX11_leaving_23 rfl ⟨rfl, ?_⟩
    refine z_q kq ?_
    rfl
  · skip
    refine e_iload_n dX11_leaving_17 rfl ?_
    refine z_iconst (5) dX11_leaving_18 rfl ?_
    refine z_icmp_le 24 dX11_leaving_19 rfl ⟨by omega, by omega⟩ ⟨by omega, by omega⟩ (fun c5 => ?_) (fun c5 => ?_)
    · exfalso; omega
    · skip
      refine z_iconst (-1) dX11_leaving_22 rfl ?_
      refine z_iret dX11_leaving_23 rfl ⟨rfl, ?_⟩
      refine z_q kq ?_
      rfl
set_option maxHeartbeats 400000 in
theorem zp_X11_leaving_out {ad : mA} {dd : Nat} {h : mH} {Q : mQ} {x : Nat} {σ : Sg} (hk : bk h x) (HX : clsT h (x + 1) σ)  (f : Int) (f_r : -2147483648 ≤ f ∧ f < 2147483648) (q : Int) (q_r : -2147483648 ≤ q ∧ q < 2147483648) (p1 : ¬ (0 ≤ f ∧ f < cn σ 0)) (kq : Q (some (.int (zI (-1)))) h) : mCal TB0 ad (dd + 5) M_X11_leaving [.ref x, .int (zI f), .int (zI q)] h 0 0 Q := by
  refine ⟨Nat.le_of_ble_eq_true rfl, ?_⟩
  show mEv TB0 ad M_X11_leaving (dd + 5) (0, 0) (mCal TB0 ad (dd + 4)) (fun v h' z => z.1 = 0 ∧ Q v h') 0 [some (.ref x), some (.int (zI f)), some (.int (zI q)), none] [] h (0, 0)
  have w1 := wS_n (clsT_w HX)
  refine e_aload_n dX11_leaving_0 rfl ?_
  refine e_get (.ref (x + 1)) dX11_leaving_1 tf_11_10 (congrArg Prod.fst (bk_s0 hk)) (congrArg va_rf (bk_r0_0 hk)) ?_
  refine e_iload_n dX11_leaving_4 rfl ?_
  refine e_callV [.int _] dX11_leaving_5 tm_11_94 rfl (Nat.le_of_ble_eq_true rfl) (congrArg Prod.fst (bk_s1 hk)) (Nat.le_of_ble_eq_true rfl) (Nat.le_refl _) (Nat.le_refl _) rfl (zp_X8_forgeAt_out (bk_td1 hk) HX f ⟨by omega, by omega⟩ (by omega) ?_)
  refine e_astore_nN (L' := [_, _, _, _]) dX11_leaving_8 (Nat.le_of_ble_eq_true rfl) rfl ?_
  refine e_aload_nN dX11_leaving_9 rfl ?_
  refine e_ifnullN 22 dX11_leaving_10 rfl ?_
  refine z_iconst (-1) dX11_leaving_22 rfl ?_
  refine z_iret dX11_leaving_23 rfl ⟨rfl, ?_⟩
  refine z_q kq ?_
  rfl
set_option maxHeartbeats 400000 in
theorem zp_X11_row_bad {ad : mA} {dd : Nat} {h : mH} {Q : mQ} {x : Nat} {σ : Sg} (hk : bk h x) (HX : clsT h (x + 1) σ)  (f : Int) (f_r : -2147483648 ≤ f ∧ f < 2147483648) (q : Int) (q_r : -2147483648 ≤ q ∧ q < 2147483648) (k : Int) (k_r : -2147483648 ≤ k ∧ k < 2147483648) (p1 : 0 ≤ f) (p2 : f < cn σ 0) (pq : ¬ (1 ≤ q ∧ q ≤ 5)) (kq : Q (some (.int (zI (-1)))) h) : mCal TB0 ad (dd + 5) M_X11_row [.ref x, .int (zI f), .int (zI q), .int (zI k)] h 0 0 Q := by
  refine ⟨Nat.le_of_ble_eq_true rfl, ?_⟩
  show mEv TB0 ad M_X11_row (dd + 5) (0, 0) (mCal TB0 ad (dd + 4)) (fun v h' z => z.1 = 0 ∧ Q v h') 0 [some (.ref x), some (.int (zI f)), some (.int (zI q)), some (.int (zI k)), none] [] h (0, 0)
  have w1 := wS_n (clsT_w HX)
  refine e_aload_n dX11_row_0 rfl ?_
  refine e_get (.ref (x + 1)) dX11_row_1 tf_11_10 (congrArg Prod.fst (bk_s0 hk)) (congrArg va_rf (bk_r0_0 hk)) ?_
  refine e_iload_n dX11_row_4 rfl ?_
  refine e_callV [.int _] dX11_row_5 tm_11_94 rfl (Nat.le_of_ble_eq_true rfl) (congrArg Prod.fst (bk_s1 hk)) (Nat.le_of_ble_eq_true rfl) (Nat.le_refl _) (Nat.le_refl _) rfl (zp_X8_forgeAt_in (bk_td1 hk) HX f ⟨by omega, by omega⟩ (by omega) (by omega) ?_)
  have k1 := fAt_k (bk_td1 hk) f
  have H2 := clsT_F HX (show 0 ≤ f by omega) (by omega)
  have y3 := fAt_b (x + 1) f
  refine e_astore (L' := [_, _, _, _, _]) dX11_row_8 (Nat.le_of_ble_eq_true rfl) rfl ?_
  refine e_aload dX11_row_10 rfl ?_
  refine e_ifnull 42 dX11_row_12 rfl ?_
  refine e_iload_n dX11_row_15 rfl ?_
  refine z_iconst (1) dX11_row_16 rfl ?_
  refine z_icmp_lt 42 dX11_row_17 rfl ⟨by omega, by omega⟩ ⟨by omega, by omega⟩ (fun c4 => ?_) (fun c4 => ?_)
  · skip
    refine z_iconst (-1) dX11_row_42 rfl ?_
    refine z_iret dX11_row_43 rfl ⟨rfl, ?_⟩
    refine z_q kq ?_
    rfl
  · skip
    refine e_iload_n dX11_row_20 rfl ?_
    refine z_iconst (5) dX11_row_21 rfl ?_
    refine z_icmp_gt 42 dX11_row_22 rfl ⟨by omega, by omega⟩ ⟨by omega, by omega⟩ (fun c5 => ?_) (fun c5 => ?_)
    · skip
      refine z_iconst (-1) dX11_row_42 rfl ?_
      refine z_iret dX11_row_43 rfl ⟨rfl, ?_⟩
      refine z_q kq ?_
      rfl
    · exfalso; omega
set_option maxHeartbeats 400000 in
theorem zp_X11_row_out {ad : mA} {dd : Nat} {h : mH} {Q : mQ} {x : Nat} {σ : Sg} (hk : bk h x) (HX : clsT h (x + 1) σ)  (f : Int) (f_r : -2147483648 ≤ f ∧ f < 2147483648) (q : Int) (q_r : -2147483648 ≤ q ∧ q < 2147483648) (k : Int) (k_r : -2147483648 ≤ k ∧ k < 2147483648) (p1 : ¬ (0 ≤ f ∧ f < cn σ 0)) (kq : Q (some (.int (zI (-1)))) h) : mCal TB0 ad (dd + 5) M_X11_row [.ref x, .int (zI f), .int (zI q), .int (zI k)] h 0 0 Q := by
  refine ⟨Nat.le_of_ble_eq_true rfl, ?_⟩
  show mEv TB0 ad M_X11_row (dd + 5) (0, 0) (mCal TB0 ad (dd + 4)) (fun v h' z => z.1 = 0 ∧ Q v h') 0 [some (.ref x), some (.int (zI f)), some (.int (zI q)), some (.int (zI k)), none] [] h (0, 0)
  have w1 := wS_n (clsT_w HX)
  refine e_aload_n dX11_row_0 rfl ?_
  refine e_get (.ref (x + 1)) dX11_row_1 tf_11_10 (congrArg Prod.fst (bk_s0 hk)) (congrArg va_rf (bk_r0_0 hk)) ?_
  refine e_iload_n dX11_row_4 rfl ?_
  refine e_callV [.int _] dX11_row_5 tm_11_94 rfl (Nat.le_of_ble_eq_true rfl) (congrArg Prod.fst (bk_s1 hk)) (Nat.le_of_ble_eq_true rfl) (Nat.le_refl _) (Nat.le_refl _) rfl (zp_X8_forgeAt_out (bk_td1 hk) HX f ⟨by omega, by omega⟩ (by omega) ?_)
  refine e_astoreN (L' := [_, _, _, _, _]) dX11_row_8 (Nat.le_of_ble_eq_true rfl) rfl ?_
  refine e_aloadN dX11_row_10 rfl ?_
  refine e_ifnullN 42 dX11_row_12 rfl ?_
  refine z_iconst (-1) dX11_row_42 rfl ?_
  refine z_iret dX11_row_43 rfl ⟨rfl, ?_⟩
  refine z_q kq ?_
  rfl
set_option maxHeartbeats 400000 in
theorem zp_X11_moves_bad {ad : mA} {dd : Nat} {h : mH} {Q : mQ} {x : Nat} {σ : Sg} (hk : bk h x) (HX : clsT h (x + 1) σ)  (f : Int) (f_r : -2147483648 ≤ f ∧ f < 2147483648) (q : Int) (q_r : -2147483648 ≤ q ∧ q < 2147483648) (p : Prop) [Decidable p] (p1 : 0 ≤ f) (p2 : f < cn σ 0) (pq : ¬ (1 ≤ q ∧ q ≤ 5)) (kq : Q (some (.int (zI (-1)))) h) : mCal TB0 ad (dd + 5) M_X11_moves [.ref x, .int (zI f), .int (zI q), .int (zI (bZ p))] h 0 0 Q := by
  refine ⟨Nat.le_of_ble_eq_true rfl, ?_⟩
  show mEv TB0 ad M_X11_moves (dd + 5) (0, 0) (mCal TB0 ad (dd + 4)) (fun v h' z => z.1 = 0 ∧ Q v h') 0 [some (.ref x), some (.int (zI f)), some (.int (zI q)), some (.int (zI (bZ p))), none] [] h (0, 0)
  have w1 := wS_n (clsT_w HX)
  refine e_aload_n dX11_moves_0 rfl ?_
  refine e_get (.ref (x + 1)) dX11_moves_1 tf_11_10 (congrArg Prod.fst (bk_s0 hk)) (congrArg va_rf (bk_r0_0 hk)) ?_
  refine e_iload_n dX11_moves_4 rfl ?_
  refine e_callV [.int _] dX11_moves_5 tm_11_94 rfl (Nat.le_of_ble_eq_true rfl) (congrArg Prod.fst (bk_s1 hk)) (Nat.le_of_ble_eq_true rfl) (Nat.le_refl _) (Nat.le_refl _) rfl (zp_X8_forgeAt_in (bk_td1 hk) HX f ⟨by omega, by omega⟩ (by omega) (by omega) ?_)
  have k1 := fAt_k (bk_td1 hk) f
  have H2 := clsT_F HX (show 0 ≤ f by omega) (by omega)
  have y3 := fAt_b (x + 1) f
  refine e_astore (L' := [_, _, _, _, _]) dX11_moves_8 (Nat.le_of_ble_eq_true rfl) rfl ?_
  refine e_aload dX11_moves_10 rfl ?_
  refine e_ifnull 25 dX11_moves_12 rfl ?_
  refine e_iload_n dX11_moves_15 rfl ?_
  refine z_iconst (1) dX11_moves_16 rfl ?_
  refine z_icmp_lt 25 dX11_moves_17 rfl ⟨by omega, by omega⟩ ⟨by omega, by omega⟩ (fun c4 => ?_) (fun c4 => ?_)
  · skip
    refine z_iconst (-1) dX11_moves_25 rfl ?_
    refine z_iret dX11_moves_26 rfl ⟨rfl, ?_⟩
    refine z_q kq ?_
    rfl
  · skip
    refine e_iload_n dX11_moves_20 rfl ?_
    refine z_iconst (5) dX11_moves_21 rfl ?_
    refine z_icmp_le 27 dX11_moves_22 rfl ⟨by omega, by omega⟩ ⟨by omega, by omega⟩ (fun c5 => ?_) (fun c5 => ?_)
    · exfalso; omega
    · skip
      refine z_iconst (-1) dX11_moves_25 rfl ?_
      refine z_iret dX11_moves_26 rfl ⟨rfl, ?_⟩
      refine z_q kq ?_
      rfl
set_option maxHeartbeats 400000 in
theorem zp_X11_moves_out {ad : mA} {dd : Nat} {h : mH} {Q : mQ} {x : Nat} {σ : Sg} (hk : bk h x) (HX : clsT h (x + 1) σ)  (f : Int) (f_r : -2147483648 ≤ f ∧ f < 2147483648) (q : Int) (q_r : -2147483648 ≤ q ∧ q < 2147483648) (p : Prop) [Decidable p] (p1 : ¬ (0 ≤ f ∧ f < cn σ 0)) (kq : Q (some (.int (zI (-1)))) h) : mCal TB0 ad (dd + 5) M_X11_moves [.ref x, .int (zI f), .int (zI q), .int (zI (bZ p))] h 0 0 Q := by
  refine ⟨Nat.le_of_ble_eq_true rfl, ?_⟩
  show mEv TB0 ad M_X11_moves (dd + 5) (0, 0) (mCal TB0 ad (dd + 4)) (fun v h' z => z.1 = 0 ∧ Q v h') 0 [some (.ref x), some (.int (zI f)), some (.int (zI q)), some (.int (zI (bZ p))), none] [] h (0, 0)
  have w1 := wS_n (clsT_w HX)
  refine e_aload_n dX11_moves_0 rfl ?_
  refine e_get (.ref (x + 1)) dX11_moves_1 tf_11_10 (congrArg Prod.fst (bk_s0 hk)) (congrArg va_rf (bk_r0_0 hk)) ?_
  refine e_iload_n dX11_moves_4 rfl ?_
  refine e_callV [.int _] dX11_moves_5 tm_11_94 rfl (Nat.le_of_ble_eq_true rfl) (congrArg Prod.fst (bk_s1 hk)) (Nat.le_of_ble_eq_true rfl) (Nat.le_refl _) (Nat.le_refl _) rfl (zp_X8_forgeAt_out (bk_td1 hk) HX f ⟨by omega, by omega⟩ (by omega) ?_)
  refine e_astoreN (L' := [_, _, _, _, _]) dX11_moves_8 (Nat.le_of_ble_eq_true rfl) rfl ?_
  refine e_aloadN dX11_moves_10 rfl ?_
  refine e_ifnullN 25 dX11_moves_12 rfl ?_
  refine z_iconst (-1) dX11_moves_25 rfl ?_
  refine z_iret dX11_moves_26 rfl ⟨rfl, ?_⟩
  refine z_q kq ?_
  rfl
set_option maxHeartbeats 400000 in
theorem zp_X11_rows_bad {ad : mA} {dd : Nat} {h : mH} {Q : mQ} {x : Nat} {σ : Sg} (hk : bk h x) (HX : clsT h (x + 1) σ)  (f : Int) (f_r : -2147483648 ≤ f ∧ f < 2147483648) (q : Int) (q_r : -2147483648 ≤ q ∧ q < 2147483648) (p1 : 0 ≤ f) (p2 : f < cn σ 0) (pq : ¬ (0 ≤ q ∧ q ≤ 3)) (kq : Q (some (.int (zI (-1)))) h) : mCal TB0 ad (dd + 2) M_X11_rows [.ref x, .int (zI f), .int (zI q)] h 0 0 Q := by
  refine ⟨Nat.le_of_ble_eq_true rfl, ?_⟩
  show mEv TB0 ad M_X11_rows (dd + 2) (0, 0) (mCal TB0 ad (dd + 1)) (fun v h' z => z.1 = 0 ∧ Q v h') 0 [some (.ref x), some (.int (zI f)), some (.int (zI q)), none] [] h (0, 0)
  have w1 := wS_n (clsT_w HX)
  refine e_aload_n dX11_rows_0 rfl ?_
  refine e_get (.ref (x + 1)) dX11_rows_1 tf_11_10 (congrArg Prod.fst (bk_s0 hk)) (congrArg va_rf (bk_r0_0 hk)) ?_
  refine e_iload_n dX11_rows_4 rfl ?_
  refine e_callV [.int _] dX11_rows_5 tm_11_94 rfl (Nat.le_of_ble_eq_true rfl) (congrArg Prod.fst (bk_s1 hk)) (Nat.le_of_ble_eq_true rfl) (Nat.le_refl _) (Nat.le_refl _) rfl (zp_X8_forgeAt_in (bk_td1 hk) HX f ⟨by omega, by omega⟩ (by omega) (by omega) ?_)
  have k1 := fAt_k (bk_td1 hk) f
  have H2 := clsT_F HX (show 0 ≤ f by omega) (by omega)
  have y3 := fAt_b (x + 1) f
  refine e_astore_n (L' := [_, _, _, _]) dX11_rows_8 (Nat.le_of_ble_eq_true rfl) rfl ?_
  refine e_aload_n dX11_rows_9 rfl ?_
  refine e_ifnull 22 dX11_rows_10 rfl ?_
  refine e_iload_n dX11_rows_13 rfl ?_
  refine z_if_lt 22 dX11_rows_14 rfl ⟨by omega, by omega⟩ (fun c4 => ?_) (fun c4 => ?_)
  · skip
    refine z_iconst (-1) dX11_rows_22 rfl ?_
    refine z_iret dX11_rows_23 rfl ⟨rfl, ?_⟩
    refine z_q kq ?_
    rfl
  · skip
    refine e_iload_n dX11_rows_17 rfl ?_
    refine z_iconst (3) dX11_rows_18 rfl ?_
    refine z_icmp_le 24 dX11_rows_19 rfl ⟨by omega, by omega⟩ ⟨by omega, by omega⟩ (fun c5 => ?_) (fun c5 => ?_)
    · exfalso; omega
    · skip
      refine z_iconst (-1) dX11_rows_22 rfl ?_
      refine z_iret dX11_rows_23 rfl ⟨rfl, ?_⟩
      refine z_q kq ?_
      rfl
set_option maxHeartbeats 400000 in
theorem zp_X11_rows_out {ad : mA} {dd : Nat} {h : mH} {Q : mQ} {x : Nat} {σ : Sg} (hk : bk h x) (HX : clsT h (x + 1) σ)  (f : Int) (f_r : -2147483648 ≤ f ∧ f < 2147483648) (q : Int) (q_r : -2147483648 ≤ q ∧ q < 2147483648) (p1 : ¬ (0 ≤ f ∧ f < cn σ 0)) (kq : Q (some (.int (zI (-1)))) h) : mCal TB0 ad (dd + 2) M_X11_rows [.ref x, .int (zI f), .int (zI q)] h 0 0 Q := by
  refine ⟨Nat.le_of_ble_eq_true rfl, ?_⟩
  show mEv TB0 ad M_X11_rows (dd + 2) (0, 0) (mCal TB0 ad (dd + 1)) (fun v h' z => z.1 = 0 ∧ Q v h') 0 [some (.ref x), some (.int (zI f)), some (.int (zI q)), none] [] h (0, 0)
  have w1 := wS_n (clsT_w HX)
  refine e_aload_n dX11_rows_0 rfl ?_
  refine e_get (.ref (x + 1)) dX11_rows_1 tf_11_10 (congrArg Prod.fst (bk_s0 hk)) (congrArg va_rf (bk_r0_0 hk)) ?_
  refine e_iload_n dX11_rows_4 rfl ?_
  refine e_callV [.int _] dX11_rows_5 tm_11_94 rfl (Nat.le_of_ble_eq_true rfl) (congrArg Prod.fst (bk_s1 hk)) (Nat.le_of_ble_eq_true rfl) (Nat.le_refl _) (Nat.le_refl _) rfl (zp_X8_forgeAt_out (bk_td1 hk) HX f ⟨by omega, by omega⟩ (by omega) ?_)
  refine e_astore_nN (L' := [_, _, _, _]) dX11_rows_8 (Nat.le_of_ble_eq_true rfl) rfl ?_
  refine e_aload_nN dX11_rows_9 rfl ?_
  refine e_ifnullN 22 dX11_rows_10 rfl ?_
  refine z_iconst (-1) dX11_rows_22 rfl ?_
  refine z_iret dX11_rows_23 rfl ⟨rfl, ?_⟩
  refine z_q kq ?_
  rfl
