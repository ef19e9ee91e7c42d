/-! CREW of the class -/
theorem dX9_fewest_0 : decode cX9_fewest 0 = .ok (.iconst (-1), 1) := by decide +kernel
theorem dX9_fewest_1 : decode cX9_fewest 1 = .ok (.istore_n 2, 1) := by decide +kernel
theorem dX9_fewest_2 : decode cX9_fewest 2 = .ok (.iconst 0, 1) := by decide +kernel
theorem dX9_fewest_3 : decode cX9_fewest 3 = .ok (.istore_n 3, 1) := by decide +kernel
theorem dX9_fewest_4 : decode cX9_fewest 4 = .ok (.iload_n 3, 1) := by decide +kernel
theorem dX9_fewest_5 : decode cX9_fewest 5 = .ok (.bipush 64, 2) := by decide +kernel
theorem dX9_fewest_7 : decode cX9_fewest 7 = .ok (.if_icmp .ge 47, 3) := by decide +kernel
theorem dX9_fewest_10 : decode cX9_fewest 10 = .ok (.iload_n 2, 1) := by decide +kernel
theorem dX9_fewest_11 : decode cX9_fewest 11 = .ok (.iconst (-1), 1) := by decide +kernel
theorem dX9_fewest_12 : decode cX9_fewest 12 = .ok (.if_icmp .eq 14, 3) := by decide +kernel
theorem dX9_fewest_15 : decode cX9_fewest 15 = .ok (.iload_n 3, 1) := by decide +kernel
theorem dX9_fewest_16 : decode cX9_fewest 16 = .ok (.invokestatic 101, 3) := by decide +kernel
theorem dX9_fewest_19 : decode cX9_fewest 19 = .ok (.iload_n 2, 1) := by decide +kernel
theorem dX9_fewest_20 : decode cX9_fewest 20 = .ok (.invokestatic 101, 3) := by decide +kernel
theorem dX9_fewest_23 : decode cX9_fewest 23 = .ok (.if_icmp .ge 7, 3) := by decide +kernel
theorem dX9_fewest_26 : decode cX9_fewest 26 = .ok (.iconst 1, 1) := by decide +kernel
theorem dX9_fewest_27 : decode cX9_fewest 27 = .ok (.goto 4, 3) := by decide +kernel
theorem dX9_fewest_30 : decode cX9_fewest 30 = .ok (.iconst 0, 1) := by decide +kernel
theorem dX9_fewest_31 : decode cX9_fewest 31 = .ok (.istore 4, 2) := by decide +kernel
theorem dX9_fewest_33 : decode cX9_fewest 33 = .ok (.iload 4, 2) := by decide +kernel
theorem dX9_fewest_35 : decode cX9_fewest 35 = .ok (.ifCond .eq 13, 3) := by decide +kernel
theorem dX9_fewest_38 : decode cX9_fewest 38 = .ok (.aload_n 1, 1) := by decide +kernel
theorem dX9_fewest_39 : decode cX9_fewest 39 = .ok (.iload_n 3, 1) := by decide +kernel
theorem dX9_fewest_40 : decode cX9_fewest 40 = .ok (.invokestatic 106, 3) := by decide +kernel
theorem dX9_fewest_43 : decode cX9_fewest 43 = .ok (.ifCond .eq 5, 3) := by decide +kernel
theorem dX9_fewest_46 : decode cX9_fewest 46 = .ok (.iload_n 3, 1) := by decide +kernel
theorem dX9_fewest_47 : decode cX9_fewest 47 = .ok (.istore_n 2, 1) := by decide +kernel
theorem dX9_fewest_48 : decode cX9_fewest 48 = .ok (.iinc 3 1, 3) := by decide +kernel
theorem dX9_fewest_51 : decode cX9_fewest 51 = .ok (.goto (-47), 3) := by decide +kernel
theorem dX9_fewest_54 : decode cX9_fewest 54 = .ok (.iload_n 2, 1) := by decide +kernel
theorem dX9_fewest_55 : decode cX9_fewest 55 = .ok (.ireturn, 1) := by decide +kernel
theorem dX9_cutsAll_0 : decode cX9_cutsAll 0 = .ok (.iconst 0, 1) := by decide +kernel
theorem dX9_cutsAll_1 : decode cX9_cutsAll 1 = .ok (.istore_n 2, 1) := by decide +kernel
theorem dX9_cutsAll_2 : decode cX9_cutsAll 2 = .ok (.iload_n 2, 1) := by decide +kernel
theorem dX9_cutsAll_3 : decode cX9_cutsAll 3 = .ok (.aload_n 0, 1) := by decide +kernel
theorem dX9_cutsAll_4 : decode cX9_cutsAll 4 = .ok (.getfield 56, 3) := by decide +kernel
theorem dX9_cutsAll_7 : decode cX9_cutsAll 7 = .ok (.if_icmp .ge 64, 3) := by decide +kernel
theorem dX9_cutsAll_10 : decode cX9_cutsAll 10 = .ok (.iconst 0, 1) := by decide +kernel
theorem dX9_cutsAll_11 : decode cX9_cutsAll 11 = .ok (.istore_n 3, 1) := by decide +kernel
theorem dX9_cutsAll_12 : decode cX9_cutsAll 12 = .ok (.iconst 0, 1) := by decide +kernel
theorem dX9_cutsAll_13 : decode cX9_cutsAll 13 = .ok (.istore 4, 2) := by decide +kernel
theorem dX9_cutsAll_15 : decode cX9_cutsAll 15 = .ok (.iload 4, 2) := by decide +kernel
theorem dX9_cutsAll_17 : decode cX9_cutsAll 17 = .ok (.bipush 6, 2) := by decide +kernel
theorem dX9_cutsAll_19 : decode cX9_cutsAll 19 = .ok (.if_icmp .ge 40, 3) := by decide +kernel
theorem dX9_cutsAll_22 : decode cX9_cutsAll 22 = .ok (.iload_n 3, 1) := by decide +kernel
theorem dX9_cutsAll_23 : decode cX9_cutsAll 23 = .ok (.ifCond .ne 36, 3) := by decide +kernel
theorem dX9_cutsAll_26 : decode cX9_cutsAll 26 = .ok (.iload_n 1, 1) := by decide +kernel
theorem dX9_cutsAll_27 : decode cX9_cutsAll 27 = .ok (.iload 4, 2) := by decide +kernel
theorem dX9_cutsAll_29 : decode cX9_cutsAll 29 = .ok (.ishr, 1) := by decide +kernel
theorem dX9_cutsAll_30 : decode cX9_cutsAll 30 = .ok (.iconst 1, 1) := by decide +kernel
theorem dX9_cutsAll_31 : decode cX9_cutsAll 31 = .ok (.iand, 1) := by decide +kernel
theorem dX9_cutsAll_32 : decode cX9_cutsAll 32 = .ok (.iconst 1, 1) := by decide +kernel
theorem dX9_cutsAll_33 : decode cX9_cutsAll 33 = .ok (.if_icmp .ne 18, 3) := by decide +kernel
theorem dX9_cutsAll_36 : decode cX9_cutsAll 36 = .ok (.aload_n 0, 1) := by decide +kernel
theorem dX9_cutsAll_37 : decode cX9_cutsAll 37 = .ok (.iload 4, 2) := by decide +kernel
theorem dX9_cutsAll_39 : decode cX9_cutsAll 39 = .ok (.iload_n 2, 1) := by decide +kernel
theorem dX9_cutsAll_40 : decode cX9_cutsAll 40 = .ok (.iconst 0, 1) := by decide +kernel
theorem dX9_cutsAll_41 : decode cX9_cutsAll 41 = .ok (.invokevirtual 64, 3) := by decide +kernel
theorem dX9_cutsAll_44 : decode cX9_cutsAll 44 = .ok (.ifCond .eq 7, 3) := by decide +kernel
theorem dX9_cutsAll_47 : decode cX9_cutsAll 47 = .ok (.iconst 1, 1) := by decide +kernel
theorem dX9_cutsAll_48 : decode cX9_cutsAll 48 = .ok (.goto 4, 3) := by decide +kernel
theorem dX9_cutsAll_51 : decode cX9_cutsAll 51 = .ok (.iconst 0, 1) := by decide +kernel
theorem dX9_cutsAll_52 : decode cX9_cutsAll 52 = .ok (.istore_n 3, 1) := by decide +kernel
theorem dX9_cutsAll_53 : decode cX9_cutsAll 53 = .ok (.iinc 4 1, 3) := by decide +kernel
theorem dX9_cutsAll_56 : decode cX9_cutsAll 56 = .ok (.goto (-41), 3) := by decide +kernel
theorem dX9_cutsAll_59 : decode cX9_cutsAll 59 = .ok (.iload_n 3, 1) := by decide +kernel
theorem dX9_cutsAll_60 : decode cX9_cutsAll 60 = .ok (.ifCond .ne 5, 3) := by decide +kernel
theorem dX9_cutsAll_63 : decode cX9_cutsAll 63 = .ok (.iconst 0, 1) := by decide +kernel
theorem dX9_cutsAll_64 : decode cX9_cutsAll 64 = .ok (.ireturn, 1) := by decide +kernel
theorem dX9_cutsAll_65 : decode cX9_cutsAll 65 = .ok (.iinc 2 1, 3) := by decide +kernel
theorem dX9_cutsAll_68 : decode cX9_cutsAll 68 = .ok (.goto (-66), 3) := by decide +kernel
theorem dX9_cutsAll_71 : decode cX9_cutsAll 71 = .ok (.iconst 1, 1) := by decide +kernel
theorem dX9_cutsAll_72 : decode cX9_cutsAll 72 = .ok (.ireturn, 1) := by decide +kernel
theorem dX11_crew_0 : decode cX11_crew 0 = .ok (.aload_n 0, 1) := by decide +kernel
theorem dX11_crew_1 : decode cX11_crew 1 = .ok (.getfield 10, 3) := by decide +kernel
theorem dX11_crew_4 : decode cX11_crew 4 = .ok (.iload_n 1, 1) := by decide +kernel
theorem dX11_crew_5 : decode cX11_crew 5 = .ok (.invokevirtual 94, 3) := by decide +kernel
theorem dX11_crew_8 : decode cX11_crew 8 = .ok (.astore_n 2, 1) := by decide +kernel
theorem dX11_crew_9 : decode cX11_crew 9 = .ok (.aload_n 2, 1) := by decide +kernel
theorem dX11_crew_10 : decode cX11_crew 10 = .ok (.ifnonnull 7, 3) := by decide +kernel
theorem dX11_crew_13 : decode cX11_crew 13 = .ok (.iconst (-1), 1) := by decide +kernel
theorem dX11_crew_14 : decode cX11_crew 14 = .ok (.goto 11, 3) := by decide +kernel
theorem dX11_crew_17 : decode cX11_crew 17 = .ok (.aload_n 0, 1) := by decide +kernel
theorem dX11_crew_18 : decode cX11_crew 18 = .ok (.getfield 51, 3) := by decide +kernel
theorem dX11_crew_21 : decode cX11_crew 21 = .ok (.aload_n 2, 1) := by decide +kernel
theorem dX11_crew_22 : decode cX11_crew 22 = .ok (.invokevirtual 256, 3) := by decide +kernel
theorem dX11_crew_25 : decode cX11_crew 25 = .ok (.ireturn, 1) := by decide +kernel
theorem dJ6_bitCount_0f7a4_0 : decode cJ6_bitCount_0f7a4 0 = .ok (.iload_n 0, 1) := by decide +kernel
theorem dJ6_bitCount_0f7a4_1 : decode cJ6_bitCount_0f7a4 1 = .ok (.iload_n 0, 1) := by decide +kernel
theorem dJ6_bitCount_0f7a4_2 : decode cJ6_bitCount_0f7a4 2 = .ok (.iconst 1, 1) := by decide +kernel
theorem dJ6_bitCount_0f7a4_3 : decode cJ6_bitCount_0f7a4 3 = .ok (.iushr, 1) := by decide +kernel
theorem dJ6_bitCount_0f7a4_4 : decode cJ6_bitCount_0f7a4 4 = .ok (.ldc_w 265, 3) := by decide +kernel
theorem dJ6_bitCount_0f7a4_7 : decode cJ6_bitCount_0f7a4 7 = .ok (.iand, 1) := by decide +kernel
theorem dJ6_bitCount_0f7a4_8 : decode cJ6_bitCount_0f7a4 8 = .ok (.isub, 1) := by decide +kernel
theorem dJ6_bitCount_0f7a4_9 : decode cJ6_bitCount_0f7a4 9 = .ok (.istore_n 0, 1) := by decide +kernel
theorem dJ6_bitCount_0f7a4_10 : decode cJ6_bitCount_0f7a4 10 = .ok (.iload_n 0, 1) := by decide +kernel
theorem dJ6_bitCount_0f7a4_11 : decode cJ6_bitCount_0f7a4 11 = .ok (.ldc_w 266, 3) := by decide +kernel
theorem dJ6_bitCount_0f7a4_14 : decode cJ6_bitCount_0f7a4 14 = .ok (.iand, 1) := by decide +kernel
theorem dJ6_bitCount_0f7a4_15 : decode cJ6_bitCount_0f7a4 15 = .ok (.iload_n 0, 1) := by decide +kernel
theorem dJ6_bitCount_0f7a4_16 : decode cJ6_bitCount_0f7a4 16 = .ok (.iconst 2, 1) := by decide +kernel
theorem dJ6_bitCount_0f7a4_17 : decode cJ6_bitCount_0f7a4 17 = .ok (.iushr, 1) := by decide +kernel
theorem dJ6_bitCount_0f7a4_18 : decode cJ6_bitCount_0f7a4 18 = .ok (.ldc_w 266, 3) := by decide +kernel
theorem dJ6_bitCount_0f7a4_21 : decode cJ6_bitCount_0f7a4 21 = .ok (.iand, 1) := by decide +kernel
theorem dJ6_bitCount_0f7a4_22 : decode cJ6_bitCount_0f7a4 22 = .ok (.iadd, 1) := by decide +kernel
theorem dJ6_bitCount_0f7a4_23 : decode cJ6_bitCount_0f7a4 23 = .ok (.istore_n 0, 1) := by decide +kernel
theorem dJ6_bitCount_0f7a4_24 : decode cJ6_bitCount_0f7a4 24 = .ok (.iload_n 0, 1) := by decide +kernel
theorem dJ6_bitCount_0f7a4_25 : decode cJ6_bitCount_0f7a4 25 = .ok (.iload_n 0, 1) := by decide +kernel
theorem dJ6_bitCount_0f7a4_26 : decode cJ6_bitCount_0f7a4 26 = .ok (.iconst 4, 1) := by decide +kernel
theorem dJ6_bitCount_0f7a4_27 : decode cJ6_bitCount_0f7a4 27 = .ok (.iushr, 1) := by decide +kernel
theorem dJ6_bitCount_0f7a4_28 : decode cJ6_bitCount_0f7a4 28 = .ok (.iadd, 1) := by decide +kernel
theorem dJ6_bitCount_0f7a4_29 : decode cJ6_bitCount_0f7a4 29 = .ok (.ldc_w 267, 3) := by decide +kernel
theorem dJ6_bitCount_0f7a4_32 : decode cJ6_bitCount_0f7a4 32 = .ok (.iand, 1) := by decide +kernel
theorem dJ6_bitCount_0f7a4_33 : decode cJ6_bitCount_0f7a4 33 = .ok (.istore_n 0, 1) := by decide +kernel
theorem dJ6_bitCount_0f7a4_34 : decode cJ6_bitCount_0f7a4 34 = .ok (.iload_n 0, 1) := by decide +kernel
theorem dJ6_bitCount_0f7a4_35 : decode cJ6_bitCount_0f7a4 35 = .ok (.iload_n 0, 1) := by decide +kernel
theorem dJ6_bitCount_0f7a4_36 : decode cJ6_bitCount_0f7a4 36 = .ok (.bipush 8, 2) := by decide +kernel
theorem dJ6_bitCount_0f7a4_38 : decode cJ6_bitCount_0f7a4 38 = .ok (.iushr, 1) := by decide +kernel
theorem dJ6_bitCount_0f7a4_39 : decode cJ6_bitCount_0f7a4 39 = .ok (.iadd, 1) := by decide +kernel
theorem dJ6_bitCount_0f7a4_40 : decode cJ6_bitCount_0f7a4 40 = .ok (.istore_n 0, 1) := by decide +kernel
theorem dJ6_bitCount_0f7a4_41 : decode cJ6_bitCount_0f7a4 41 = .ok (.iload_n 0, 1) := by decide +kernel
theorem dJ6_bitCount_0f7a4_42 : decode cJ6_bitCount_0f7a4 42 = .ok (.iload_n 0, 1) := by decide +kernel
theorem dJ6_bitCount_0f7a4_43 : decode cJ6_bitCount_0f7a4 43 = .ok (.bipush 16, 2) := by decide +kernel
theorem dJ6_bitCount_0f7a4_45 : decode cJ6_bitCount_0f7a4 45 = .ok (.iushr, 1) := by decide +kernel
theorem dJ6_bitCount_0f7a4_46 : decode cJ6_bitCount_0f7a4 46 = .ok (.iadd, 1) := by decide +kernel
theorem dJ6_bitCount_0f7a4_47 : decode cJ6_bitCount_0f7a4 47 = .ok (.istore_n 0, 1) := by decide +kernel
theorem dJ6_bitCount_0f7a4_48 : decode cJ6_bitCount_0f7a4 48 = .ok (.iload_n 0, 1) := by decide +kernel
theorem dJ6_bitCount_0f7a4_49 : decode cJ6_bitCount_0f7a4 49 = .ok (.bipush 63, 2) := by decide +kernel
theorem dJ6_bitCount_0f7a4_51 : decode cJ6_bitCount_0f7a4 51 = .ok (.iand, 1) := by decide +kernel
theorem dJ6_bitCount_0f7a4_52 : decode cJ6_bitCount_0f7a4 52 = .ok (.ireturn, 1) := by decide +kernel
theorem tf_9_56 : tFld TB0 9 56 = some (2, 5) := rfl
set_option maxRecDepth 20000 in
theorem tm_9_64 : tMet TB0 9 64 = some (0, M_X2_cutsWorn) := rfl
set_option maxRecDepth 20000 in
theorem tm_9_101 : tMet TB0 9 101 = some (1, M_J6_bitCount_0f7a4) := rfl
set_option maxRecDepth 20000 in
theorem tm_9_106 : tMet TB0 9 106 = some (1, M_X9_cutsAll) := rfl
set_option maxRecDepth 20000 in
theorem tm_11_256 : tMet TB0 11 256 = some (0, M_X9_fewest) := rfl
theorem tl_16_265 : tLdc TB0 16 265 = some (.inl (1431655765)) := rfl
theorem tl_16_266 : tLdc TB0 16 266 = some (.inl (858993459)) := rfl
theorem tl_16_267 : tLdc TB0 16 267 = some (.inl (252645135)) := rfl
def bc1 (v : Int32) : Int32 := v - ((v.toUInt32 >>> ((1 : Int32).toUInt32 &&& Int32.toUInt32 31)).toInt32 &&& 1431655765)
def bc2 (v : Int32) : Int32 := (v &&& 858993459) + ((v.toUInt32 >>> ((2 : Int32).toUInt32 &&& Int32.toUInt32 31)).toInt32 &&& 858993459)
def bc3 (v : Int32) : Int32 := (v + (v.toUInt32 >>> ((4 : Int32).toUInt32 &&& Int32.toUInt32 31)).toInt32) &&& 252645135
def bc4 (v : Int32) : Int32 := v + (v.toUInt32 >>> ((8 : Int32).toUInt32 &&& Int32.toUInt32 31)).toInt32
def bc5 (v : Int32) : Int32 := v + (v.toUInt32 >>> ((16 : Int32).toUInt32 &&& Int32.toUInt32 31)).toInt32
def bcF (v : Int32) : Int32 := bc5 (bc4 (bc3 (bc2 (bc1 v)))) &&& 63
theorem bcF_d : ∀ n, n < 64 → bcF (nI n) = zI (onesZ (n : Int)) := by decide +kernel
set_option maxHeartbeats 1000000 in
theorem zp_J6_bitCount_0f7a4 {ad : mA} {dd : Nat} {h : mH} {Q : mQ} (x : Int) (x_r : -2147483648 ≤ x ∧ x < 2147483648) (p1 : 0 ≤ x ∧ x < 64) (kq : Q (some (.int (zI (onesZ x)))) h) : mCal TB0 ad (dd + 1) M_J6_bitCount_0f7a4 [.int (zI x)] h 0 0 Q := by
  have e : bcF (zI x) = zI (onesZ x) := by
    have z := bcF_d x.toNat (by omega)
    rw [Int.toNat_of_nonneg p1.1] at z
    rw [zI_nI p1.1]; exact z
  rw [← e] at kq
  generalize zI x = v at *
  refine ⟨Nat.le_of_ble_eq_true rfl, ?_⟩
  show mEv TB0 ad M_J6_bitCount_0f7a4 (dd + 1) (0, 0) (mCal TB0 ad dd) (fun v h' z => z.1 = 0 ∧ Q v h') 0 [some (.int v)] [] h (0, 0)
  refine e_iload_n dJ6_bitCount_0f7a4_0 rfl ?_
  refine e_iload_n dJ6_bitCount_0f7a4_1 rfl ?_
  refine e_iconst (1) dJ6_bitCount_0f7a4_2 rfl ?_
  refine e_iushr dJ6_bitCount_0f7a4_3 ?_
  refine e_ldc_w dJ6_bitCount_0f7a4_4 tl_16_265 ?_
  refine e_iand dJ6_bitCount_0f7a4_7 ?_
  refine e_isub dJ6_bitCount_0f7a4_8 ?_
  refine e_istore_n (L' := [some (.int (bc1 v))]) dJ6_bitCount_0f7a4_9 (Nat.le_of_ble_eq_true rfl) rfl ?_
  refine e_iload_n dJ6_bitCount_0f7a4_10 rfl ?_
  refine e_ldc_w dJ6_bitCount_0f7a4_11 tl_16_266 ?_
  refine e_iand dJ6_bitCount_0f7a4_14 ?_
  refine e_iload_n dJ6_bitCount_0f7a4_15 rfl ?_
  refine e_iconst (2) dJ6_bitCount_0f7a4_16 rfl ?_
  refine e_iushr dJ6_bitCount_0f7a4_17 ?_
  refine e_ldc_w dJ6_bitCount_0f7a4_18 tl_16_266 ?_
  refine e_iand dJ6_bitCount_0f7a4_21 ?_
  refine e_iadd dJ6_bitCount_0f7a4_22 ?_
  refine e_istore_n (L' := [some (.int (bc2 (bc1 v)))]) dJ6_bitCount_0f7a4_23 (Nat.le_of_ble_eq_true rfl) rfl ?_
  refine e_iload_n dJ6_bitCount_0f7a4_24 rfl ?_
  refine e_iload_n dJ6_bitCount_0f7a4_25 rfl ?_
  refine e_iconst (4) dJ6_bitCount_0f7a4_26 rfl ?_
  refine e_iushr dJ6_bitCount_0f7a4_27 ?_
  refine e_iadd dJ6_bitCount_0f7a4_28 ?_
  refine e_ldc_w dJ6_bitCount_0f7a4_29 tl_16_267 ?_
  refine e_iand dJ6_bitCount_0f7a4_32 ?_
  refine e_istore_n (L' := [some (.int (bc3 (bc2 (bc1 v))))]) dJ6_bitCount_0f7a4_33 (Nat.le_of_ble_eq_true rfl) rfl ?_
  refine e_iload_n dJ6_bitCount_0f7a4_34 rfl ?_
  refine e_iload_n dJ6_bitCount_0f7a4_35 rfl ?_
  refine e_bipush (8) dJ6_bitCount_0f7a4_36 rfl ?_
  refine e_iushr dJ6_bitCount_0f7a4_38 ?_
  refine e_iadd dJ6_bitCount_0f7a4_39 ?_
  refine e_istore_n (L' := [some (.int (bc4 (bc3 (bc2 (bc1 v)))))]) dJ6_bitCount_0f7a4_40 (Nat.le_of_ble_eq_true rfl) rfl ?_
  refine e_iload_n dJ6_bitCount_0f7a4_41 rfl ?_
  refine e_iload_n dJ6_bitCount_0f7a4_42 rfl ?_
  refine e_bipush (16) dJ6_bitCount_0f7a4_43 rfl ?_
  refine e_iushr dJ6_bitCount_0f7a4_45 ?_
  refine e_iadd dJ6_bitCount_0f7a4_46 ?_
  refine e_istore_n (L' := [some (.int (bc5 (bc4 (bc3 (bc2 (bc1 v))))))]) dJ6_bitCount_0f7a4_47 (Nat.le_of_ble_eq_true rfl) rfl ?_
  refine e_iload_n dJ6_bitCount_0f7a4_48 rfl ?_
  refine e_bipush (63) dJ6_bitCount_0f7a4_49 rfl ?_
  refine e_iand dJ6_bitCount_0f7a4_51 ?_
  exact e_iret dJ6_bitCount_0f7a4_52 rfl ⟨rfl, kq⟩
/-! CREW -/
def exC (g : Int → Int) (s c : Int) : Prop := ∃ d, 0 ≤ d ∧ d < 6 ∧ hasZ s d ∧ cutW g d c 0
def crA (g : Int → Int) (s : Int) : Prop := ∀ c, 0 ≤ c → c < nc g → exC g s c
def crB (g : Int → Int) (s : Int) : Prop := (∀ d, 0 ≤ d → d < 6 → hasZ s d → dm g d ≠ -1) ∧ crA g s
def crS (s : Int) : Int := -(onesZ s)
theorem bit_and : ∀ s, s < 64 → ∀ m, m < 64 → ∀ k, k < 6 → (s &&& m).testBit k = (s.testBit k && m.testBit k) := fun s _ m _ k _ => Nat.testBit_and s m k
theorem ones_and : ∀ s, s < 64 → ∀ m, m < 64 → onesZ ((s &&& m : Nat) : Int) ≤ onesZ (s : Int) ∧ ((∃ k, k < 6 ∧ s.testBit k = true ∧ m.testBit k = false) → onesZ ((s &&& m : Nat) : Int) < onesZ (s : Int)) := by decide +kernel
theorem maskEx (P : Int → Prop) (n : Nat) (hn : n ≤ 6) : ∃ m, m < 2 ^ n ∧ ∀ k, k < n → (m.testBit k = true ↔ P (k : Int)) := by
  induction n with
  | zero => exact ⟨0, by omega, fun k h => by omega⟩
  | succ n ih =>
    obtain ⟨m, h1, h2⟩ := ih (by omega)
    by_cases q : P (n : Int)
    · refine ⟨2 ^ n * 1 + m, by rw [Nat.pow_succ]; omega, fun k hk => ?_⟩
      rw [Nat.testBit_two_pow_mul_add _ h1]
      by_cases c : k < n
      · rw [if_pos c]; exact h2 k c
      · rw [if_neg c, show k - n = 0 by omega, show k = n by omega]
        exact ⟨fun _ => q, fun _ => by decide⟩
    · refine ⟨m, by rw [Nat.pow_succ]; omega, fun k hk => ?_⟩
      by_cases c : k < n
      · exact h2 k c
      · rw [show k = n by omega, Nat.testBit_lt_two_pow h1]
        exact ⟨fun z => Bool.noConfusion z, fun z => absurd z q⟩
theorem crew_eq {g : Int → Int} {v : Int} (w : wfF g) (h : fmax (crA g) crS 64 v) : fmax (crB g) crS 64 v := by
  rcases h with ⟨a, b⟩ | ⟨a, b, c⟩
  · exact Or.inl ⟨a, fun k x y z => b k x y z.2⟩
  · refine Or.inr ⟨a, ⟨?_, b⟩, fun k x y z => c k x y z.2⟩
    intro d d0 d6 hd hm
    obtain ⟨m, m1, m2⟩ := maskEx (fun k => dm g k ≠ -1) 6 (by omega)
    have hlt : v.toNat &&& m < 64 := Nat.lt_of_le_of_lt Nat.and_le_left (by omega)
    have oa := (ones_and v.toNat (by omega) m m1).2 ⟨d.toNat, by omega, hd, by
      cases e : m.testBit d.toNat with
      | false => rfl
      | true =>
        have := (m2 d.toNat (by omega)).mp e
        rw [Int.toNat_of_nonneg d0] at this
        exact absurd hm this⟩
    rw [Int.toNat_of_nonneg a.1] at oa
    have hA : crA g ((v.toNat &&& m : Nat) : Int) := by
      intro k k0 k1
      obtain ⟨e, e0, e6, he, hc⟩ := b k k0 k1
      refine ⟨e, e0, e6, ?_, hc⟩
      have hp : dm g e ≠ -1 := by
        have z1 := hc.1
        have z2 := upv_s w e
        omega
      unfold hasZ at he ⊢
      rw [Int.toNat_natCast, Nat.testBit_and, he, (m2 e.toNat (by omega)).mpr (by rw [Int.toNat_of_nonneg e0]; exact hp)]
      rfl
    have := c ((v.toNat &&& m : Nat) : Int) (by omega) (by omega) hA
    unfold crS at this
    omega
set_option maxHeartbeats 400000 in
theorem zp_X9_cutsAll {ad : mA} {dd : Nat} {h : mH} {Q : mQ} {f : Nat} {g : Int → Int} (hk : fgk h f) (HF : isF h f g)  (s : Int) (s_r : -2147483648 ≤ s ∧ s < 2147483648) (p1 : 0 ≤ s ∧ s < 64) (kq : ∀ v : Int, ((v = 1 ∧ crA g s) ∨ (v = 0 ∧ ¬ crA g s)) → Q (some (.int (zI v))) h) : mCal TB0 ad (dd + 5) M_X9_cutsAll [.ref f, .int (zI s)] h 0 0 Q := by
  refine ⟨Nat.le_of_ble_eq_true rfl, ?_⟩
  show mEv TB0 ad M_X9_cutsAll (dd + 5) (0, 0) (mCal TB0 ad (dd + 4)) (fun v h' z => z.1 = 0 ∧ Q v h') 0 [some (.ref f), some (.int (zI s)), none, none, none] [] h (0, 0)
  have w1 := isF_n HF
  have w2 := isF_nd HF
  have w3 := isF_nu HF
  have w4 := isF_nc HF
  have W := isF_w HF
  refine z_iconst (0) dX9_cutsAll_0 rfl ?_
  refine e_istore_n (L' := [_, _, _, _, _]) dX9_cutsAll_1 (Nat.le_of_ble_eq_true rfl) rfl ?_
  have lp1 : ∀ (n1 : Nat) (c : Int), (nc g - c).toNat = n1 → (0 ≤ c) → (c ≤ nc g) → (∀ k, 0 ≤ k → k < c → exC g s k) → mEv TB0 ad M_X9_cutsAll (dd + 5) (0, 0) (mCal TB0 ad (dd + 4)) (fun v h' z => z.1 = 0 ∧ Q v h') 2 [some (.ref f), some (.int (zI s)), some (.int (zI c)), none, none] [] h (0, 0) := by
    intro n1
    induction n1 using Nat.strongRecOn with
    | ind n1 ih1 =>
    intro c  hn1  I1 I2 I3
    refine e_iload_n dX9_cutsAll_2 rfl ?_
    refine e_aload_n dX9_cutsAll_3 rfl ?_
    refine z_get (nc g) dX9_cutsAll_4 tf_9_56 (congrArg Prod.fst (fg_s0 hk)) (Or.inl rfl) (isF_nc HF) ?_
    have y2 := isF_n HF
    refine z_icmp_ge 71 dX9_cutsAll_7 rfl ⟨by omega, by omega⟩ ⟨by omega, by omega⟩ (fun c3 => ?_) (fun c3 => ?_)
    · skip
      refine z_iconst (1) dX9_cutsAll_71 rfl ?_
      refine z_bret dX9_cutsAll_72 rfl (Or.inr rfl) ⟨rfl, ?_⟩
      refine kq _ ?_
      first | exact Or.inl ⟨rfl, fun k a z => I3 k a (by omega)⟩ | (refine Or.inr ⟨rfl, fun A => ?_⟩; obtain ⟨d, d0, d6, d1, d2⟩ := A c (by omega) (by omega); exact (J3.resolve_left (fun q => absurd q.1 (by omega))).2 d d0 (by omega) ⟨d1, d2⟩)
    · skip
      refine z_iconst (0) dX9_cutsAll_10 rfl ?_
      refine e_istore_n (L' := [_, _, _, _, _]) dX9_cutsAll_11 (Nat.le_of_ble_eq_true rfl) rfl ?_
      refine z_iconst (0) dX9_cutsAll_12 rfl ?_
      refine e_istore (L' := [_, _, _, _, _]) dX9_cutsAll_13 (Nat.le_of_ble_eq_true rfl) rfl ?_
      skip
      have lp4 : ∀ (n4 : Nat) (t i : Int), (6 - i).toNat = n4 → (0 ≤ i) → (i ≤ 6) → ((t = 1 ∧ exC g s c) ∨ (t = 0 ∧ ∀ d, 0 ≤ d → d < i → ¬ (hasZ s d ∧ cutW g d c 0))) → mEv TB0 ad M_X9_cutsAll (dd + 5) (0, 0) (mCal TB0 ad (dd + 4)) (fun v h' z => z.1 = 0 ∧ Q v h') 15 [some (.ref f), some (.int (zI s)), some (.int (zI c)), some (.int (zI t)), some (.int (zI i))] [] h (0, 0) := by
        intro n4
        induction n4 using Nat.strongRecOn with
        | ind n4 ih4 =>
        intro t i  hn4  J1 J2 J3
        refine e_iload dX9_cutsAll_15 rfl ?_
        refine z_bipush (6) dX9_cutsAll_17 rfl ?_
        refine z_icmp_ge 59 dX9_cutsAll_19 rfl ⟨by omega, by omega⟩ ⟨by omega, by omega⟩ (fun c5 => ?_) (fun c5 => ?_)
        · skip
          have tt : t = 1 ∨ t = 0 := by rcases J3 with q | q; exact Or.inl q.1; exact Or.inr q.1
          refine e_iload_n dX9_cutsAll_59 rfl ?_
          refine z_if_ne 65 dX9_cutsAll_60 rfl ⟨by omega, by omega⟩ (fun c6 => ?_) (fun c6 => ?_)
          · skip
            refine z_iinc (L' := [_, _, _, _, _]) dX9_cutsAll_65 rfl rfl ?_
            refine e_goto 2 dX9_cutsAll_68 rfl ?_
            exact mEv_wk (by exact ⟨Or.inr rfl, Or.inr rfl, Or.inr rfl, Or.inl rfl, Or.inl rfl, trivial⟩) (ih1 _ (by omega) (c + 1)  rfl  (by omega) (by omega) (fun k a z => by
                      by_cases y : k < c
                      · exact I3 k a y
                      · rw [show k = c by omega]; exact (J3.resolve_right (fun q => absurd q.1 (by omega))).2))
          · skip
            refine z_iconst (0) dX9_cutsAll_63 rfl ?_
            refine z_bret dX9_cutsAll_64 rfl (Or.inl rfl) ⟨rfl, ?_⟩
            refine kq _ ?_
            first | exact Or.inl ⟨rfl, fun k a z => I3 k a (by omega)⟩ | (refine Or.inr ⟨rfl, fun A => ?_⟩; obtain ⟨d, d0, d6, d1, d2⟩ := A c (by omega) (by omega); exact (J3.resolve_left (fun q => absurd q.1 (by omega))).2 d d0 (by omega) ⟨d1, d2⟩)
        · skip
          have tt : t = 1 ∨ t = 0 := by rcases J3 with q | q; exact Or.inl q.1; exact Or.inr q.1
          refine e_iload_n dX9_cutsAll_22 rfl ?_
          refine z_if_ne 59 dX9_cutsAll_23 rfl ⟨by omega, by omega⟩ (fun c7 => ?_) (fun c7 => ?_)
          · skip
            have tt : t = 1 ∨ t = 0 := by rcases J3 with q | q; exact Or.inl q.1; exact Or.inr q.1
            refine e_iload_n dX9_cutsAll_59 rfl ?_
            refine z_if_ne 65 dX9_cutsAll_60 rfl ⟨by omega, by omega⟩ (fun c8 => ?_) (fun c8 => ?_)
            · skip
              refine z_iinc (L' := [_, _, _, _, _]) dX9_cutsAll_65 rfl rfl ?_
              refine e_goto 2 dX9_cutsAll_68 rfl ?_
              exact mEv_wk (by exact ⟨Or.inr rfl, Or.inr rfl, Or.inr rfl, Or.inl rfl, Or.inl rfl, trivial⟩) (ih1 _ (by omega) (c + 1)  rfl  (by omega) (by omega) (fun k a z => by
                        by_cases y : k < c
                        · exact I3 k a y
                        · rw [show k = c by omega]; exact (J3.resolve_right (fun q => absurd q.1 (by omega))).2))
            · skip
              refine z_iconst (0) dX9_cutsAll_63 rfl ?_
              refine z_bret dX9_cutsAll_64 rfl (Or.inl rfl) ⟨rfl, ?_⟩
              refine kq _ ?_
              first | exact Or.inl ⟨rfl, fun k a z => I3 k a (by omega)⟩ | (refine Or.inr ⟨rfl, fun A => ?_⟩; obtain ⟨d, d0, d6, d1, d2⟩ := A c (by omega) (by omega); exact (J3.resolve_left (fun q => absurd q.1 (by omega))).2 d d0 (by omega) ⟨d1, d2⟩)
          · skip
            refine e_iload_n dX9_cutsAll_26 rfl ?_
            refine e_iload dX9_cutsAll_27 rfl ?_
            refine z_ishr dX9_cutsAll_29 (by omega) (by omega) (by omega) (by omega) ?_
            have y9 := shrZ_b s i
            refine z_iconst (1) dX9_cutsAll_30 rfl ?_
            refine z_iand dX9_cutsAll_31 (by omega) (by omega) (by omega) (by omega) ?_
            have y10 := andZ_b (shrZ s i) 1
            refine z_iconst (1) dX9_cutsAll_32 rfl ?_
            refine z_icmp_ne 51 dX9_cutsAll_33 rfl ⟨by omega, by omega⟩ ⟨by omega, by omega⟩ (fun c11 => ?_) (fun c11 => ?_)
            · skip
              refine z_iconst (0) dX9_cutsAll_51 rfl ?_
              refine e_istore_n (L' := [_, _, _, _, _]) dX9_cutsAll_52 (Nat.le_of_ble_eq_true rfl) rfl ?_
              refine z_iinc (L' := [_, _, _, _, _]) dX9_cutsAll_53 rfl rfl ?_
              refine e_goto 15 dX9_cutsAll_56 rfl ?_
              skip
              exact ih4 _ (by omega) 0 (i + 1)  rfl  (by omega) (by omega) (by first | exact Or.inl ⟨rfl, i, by omega, by omega, hasZ_i.mp (by assumption), by assumption⟩ | exact Or.inr ⟨rfl, allS (P := fun d => hasZ s d ∧ cutW g d c 0) (J3.resolve_left (fun q => absurd q.1 (by omega))).2 (by rintro ⟨z1, z2⟩; first | exact absurd z2 (by assumption) | exact absurd (hasZ_i.mpr z1) (by assumption))⟩)
            · skip
              refine e_aload_n dX9_cutsAll_36 rfl ?_
              refine e_iload dX9_cutsAll_37 rfl ?_
              refine e_iload_n dX9_cutsAll_39 rfl ?_
              refine z_iconst (0) dX9_cutsAll_40 rfl ?_
              refine e_callV [.int _, .int _, .int _] dX9_cutsAll_41 tm_9_64 rfl (Nat.le_of_ble_eq_true rfl) (congrArg Prod.fst (fg_s0 hk)) (Nat.le_of_ble_eq_true rfl) (Nat.le_refl _) (Nat.le_refl _) rfl (zp_X2_cutsWorn hk HF i ⟨by omega, by omega⟩ c ⟨by omega, by omega⟩ 0 ⟨by omega, by omega⟩ (by omega) (by omega) ?_)
              refine z_ifb_eq 51 dX9_cutsAll_44 rfl (fun c12 => ?_) (fun c12 => ?_)
              · skip
                refine z_iconst (0) dX9_cutsAll_51 rfl ?_
                refine e_istore_n (L' := [_, _, _, _, _]) dX9_cutsAll_52 (Nat.le_of_ble_eq_true rfl) rfl ?_
                refine z_iinc (L' := [_, _, _, _, _]) dX9_cutsAll_53 rfl rfl ?_
                refine e_goto 15 dX9_cutsAll_56 rfl ?_
                skip
                exact ih4 _ (by omega) 0 (i + 1)  rfl  (by omega) (by omega) (by first | exact Or.inl ⟨rfl, i, by omega, by omega, hasZ_i.mp (by assumption), by assumption⟩ | exact Or.inr ⟨rfl, allS (P := fun d => hasZ s d ∧ cutW g d c 0) (J3.resolve_left (fun q => absurd q.1 (by omega))).2 (by rintro ⟨z1, z2⟩; first | exact absurd z2 (by assumption) | exact absurd (hasZ_i.mpr z1) (by assumption))⟩)
              · skip
                refine z_iconst (1) dX9_cutsAll_47 rfl ?_
                refine e_goto 52 dX9_cutsAll_48 rfl ?_
                refine e_istore_n (L' := [_, _, _, _, _]) dX9_cutsAll_52 (Nat.le_of_ble_eq_true rfl) rfl ?_
                refine z_iinc (L' := [_, _, _, _, _]) dX9_cutsAll_53 rfl rfl ?_
                refine e_goto 15 dX9_cutsAll_56 rfl ?_
                skip
                exact ih4 _ (by omega) 1 (i + 1)  rfl  (by omega) (by omega) (by first | exact Or.inl ⟨rfl, i, by omega, by omega, hasZ_i.mp (by assumption), by assumption⟩ | exact Or.inr ⟨rfl, allS (P := fun d => hasZ s d ∧ cutW g d c 0) (J3.resolve_left (fun q => absurd q.1 (by omega))).2 (by rintro ⟨z1, z2⟩; first | exact absurd z2 (by assumption) | exact absurd (hasZ_i.mpr z1) (by assumption))⟩)
      exact lp4 _ 0 0  rfl  (by omega) (by omega) (Or.inr ⟨rfl, fun d a z => by omega⟩)
  exact lp1 _ 0  rfl  (by omega) (by omega) (fun k a z => by omega)
set_option maxHeartbeats 400000 in
theorem zp_X9_fewest {ad : mA} {dd : Nat} {h : mH} {Q : mQ} {y f : Nat} {g : Int → Int} (hk : fgk h f) (HF : isF h f g)    (kq : ∀ v : Int, (fmax (crA g) crS 64 v) → Q (some (.int (zI v))) h) : mCal TB0 ad (dd + 6) M_X9_fewest [.ref y, .ref f] h 0 0 Q := by
  refine ⟨Nat.le_of_ble_eq_true rfl, ?_⟩
  show mEv TB0 ad M_X9_fewest (dd + 6) (0, 0) (mCal TB0 ad (dd + 5)) (fun v h' z => z.1 = 0 ∧ Q v h') 0 [some (.ref y), some (.ref f), none, none, none] [] h (0, 0)
  have w1 := isF_n HF
  have w2 := isF_nd HF
  have w3 := isF_nu HF
  have w4 := isF_nc HF
  have W := isF_w HF
  refine z_iconst (-1) dX9_fewest_0 rfl ?_
  refine e_istore_n (L' := [_, _, _, _, _]) dX9_fewest_1 (Nat.le_of_ble_eq_true rfl) rfl ?_
  refine z_iconst (0) dX9_fewest_2 rfl ?_
  refine e_istore_n (L' := [_, _, _, _, _]) dX9_fewest_3 (Nat.le_of_ble_eq_true rfl) rfl ?_
  have lp1 : ∀ (n1 : Nat) (b i : Int), (64 - i).toNat = n1 → (0 ≤ i) → (i ≤ 64) → (fmax (crA g) crS i b) → mEv TB0 ad M_X9_fewest (dd + 6) (0, 0) (mCal TB0 ad (dd + 5)) (fun v h' z => z.1 = 0 ∧ Q v h') 4 [some (.ref y), some (.ref f), some (.int (zI b)), some (.int (zI i)), none] [] h (0, 0) := by
    intro n1
    induction n1 using Nat.strongRecOn with
    | ind n1 ih1 =>
    intro b i  hn1  I1 I2 I3
    refine e_iload_n dX9_fewest_4 rfl ?_
    refine z_bipush (64) dX9_fewest_5 rfl ?_
    refine z_icmp_ge 54 dX9_fewest_7 rfl ⟨by omega, by omega⟩ ⟨by omega, by omega⟩ (fun c2 => ?_) (fun c2 => ?_)
    · skip
      have qb := fmax_b I3
      refine e_iload_n dX9_fewest_54 rfl ?_
      refine z_iret dX9_fewest_55 rfl ⟨rfl, ?_⟩
      refine kq _ ?_
      rw [show (64 : Int) = i by omega]; exact I3
    · skip
      have qb := fmax_b I3
      refine e_iload_n dX9_fewest_10 rfl ?_
      refine z_iconst (-1) dX9_fewest_11 rfl ?_
      refine z_icmp_eq 26 dX9_fewest_12 rfl ⟨by omega, by omega⟩ ⟨by omega, by omega⟩ (fun c3 => ?_) (fun c3 => ?_)
      · skip
        refine z_iconst (1) dX9_fewest_26 rfl ?_
        refine e_goto 31 dX9_fewest_27 rfl ?_
        refine e_istore (L' := [_, _, _, _, _]) dX9_fewest_31 (Nat.le_of_ble_eq_true rfl) rfl ?_
        refine e_iload dX9_fewest_33 rfl ?_
        refine z_if_eq 48 dX9_fewest_35 rfl ⟨by omega, by omega⟩ (fun c4 => ?_) (fun c4 => ?_)
        · exfalso; omega
        · skip
          refine e_aload_n dX9_fewest_38 rfl ?_
          refine e_iload_n dX9_fewest_39 rfl ?_
          refine e_callS [.ref _, .int _] dX9_fewest_40 tm_9_106 rfl (Nat.le_of_ble_eq_true rfl) (Nat.le_refl _) (Nat.le_refl _) rfl (zp_X9_cutsAll hk HF i ⟨by omega, by omega⟩ (by omega) (fun v5 p6 => ?_))
          refine z_if_eq 48 dX9_fewest_43 rfl ⟨by omega, by omega⟩ (fun c7 => ?_) (fun c7 => ?_)
          · skip
            refine z_iinc (L' := [_, _, _, _, _]) dX9_fewest_48 rfl rfl ?_
            refine e_goto 4 dX9_fewest_51 rfl ?_
            exact mEv_wk (by exact ⟨Or.inr rfl, Or.inr rfl, Or.inr rfl, Or.inr rfl, Or.inl rfl, trivial⟩) (ih1 _ (by omega) b (i + 1)  rfl  (by omega) (by omega) (by first | exact fmax_no I3 (fun q => by rcases ‹(_ = (1 : Int) ∧ crA g i) ∨ (_ = (0 : Int) ∧ ¬ crA g i)› with z | z; exact absurd z.1 (by omega); exact z.2 q) | exact fmax_keep I3 (by omega) (by unfold crS; omega) | exact fmax_new I3 (by omega) (by rcases ‹(_ = (1 : Int) ∧ crA g i) ∨ (_ = (0 : Int) ∧ ¬ crA g i)› with z | z; exact z.2; exact absurd z.1 (by omega)) (by unfold crS; omega)))
          · skip
            refine e_iload_n dX9_fewest_46 rfl ?_
            refine e_istore_n (L' := [_, _, _, _, _]) dX9_fewest_47 (Nat.le_of_ble_eq_true rfl) rfl ?_
            refine z_iinc (L' := [_, _, _, _, _]) dX9_fewest_48 rfl rfl ?_
            refine e_goto 4 dX9_fewest_51 rfl ?_
            exact mEv_wk (by exact ⟨Or.inr rfl, Or.inr rfl, Or.inr rfl, Or.inr rfl, Or.inl rfl, trivial⟩) (ih1 _ (by omega) i (i + 1)  rfl  (by omega) (by omega) (by first | exact fmax_no I3 (fun q => by rcases ‹(_ = (1 : Int) ∧ crA g i) ∨ (_ = (0 : Int) ∧ ¬ crA g i)› with z | z; exact absurd z.1 (by omega); exact z.2 q) | exact fmax_keep I3 (by omega) (by unfold crS; omega) | exact fmax_new I3 (by omega) (by rcases ‹(_ = (1 : Int) ∧ crA g i) ∨ (_ = (0 : Int) ∧ ¬ crA g i)› with z | z; exact z.2; exact absurd z.1 (by omega)) (by unfold crS; omega)))
      · skip
        refine e_iload_n dX9_fewest_15 rfl ?_
        refine e_callS [.int _] dX9_fewest_16 tm_9_101 rfl (Nat.le_of_ble_eq_true rfl) (Nat.le_refl _) (Nat.le_refl _) rfl (zp_J6_bitCount_0f7a4 i ⟨by omega, by omega⟩ (by omega) ?_)
        have y8 := onesZ_b i
        refine e_iload_n dX9_fewest_19 rfl ?_
        refine e_callS [.int _] dX9_fewest_20 tm_9_101 rfl (Nat.le_of_ble_eq_true rfl) (Nat.le_refl _) (Nat.le_refl _) rfl (zp_J6_bitCount_0f7a4 b ⟨by omega, by omega⟩ (by omega) ?_)
        have y9 := onesZ_b b
        refine z_icmp_ge 30 dX9_fewest_23 rfl ⟨by omega, by omega⟩ ⟨by omega, by omega⟩ (fun c10 => ?_) (fun c10 => ?_)
        · skip
          refine z_iconst (0) dX9_fewest_30 rfl ?_
          refine e_istore (L' := [_, _, _, _, _]) dX9_fewest_31 (Nat.le_of_ble_eq_true rfl) rfl ?_
          refine e_iload dX9_fewest_33 rfl ?_
          refine z_if_eq 48 dX9_fewest_35 rfl ⟨by omega, by omega⟩ (fun c11 => ?_) (fun c11 => ?_)
          · skip
            refine z_iinc (L' := [_, _, _, _, _]) dX9_fewest_48 rfl rfl ?_
            refine e_goto 4 dX9_fewest_51 rfl ?_
            exact mEv_wk (by exact ⟨Or.inr rfl, Or.inr rfl, Or.inr rfl, Or.inr rfl, Or.inl rfl, trivial⟩) (ih1 _ (by omega) b (i + 1)  rfl  (by omega) (by omega) (by first | exact fmax_no I3 (fun q => by rcases ‹(_ = (1 : Int) ∧ crA g i) ∨ (_ = (0 : Int) ∧ ¬ crA g i)› with z | z; exact absurd z.1 (by omega); exact z.2 q) | exact fmax_keep I3 (by omega) (by unfold crS; omega) | exact fmax_new I3 (by omega) (by rcases ‹(_ = (1 : Int) ∧ crA g i) ∨ (_ = (0 : Int) ∧ ¬ crA g i)› with z | z; exact z.2; exact absurd z.1 (by omega)) (by unfold crS; omega)))
          · exfalso; omega
        · skip
          refine z_iconst (1) dX9_fewest_26 rfl ?_
          refine e_goto 31 dX9_fewest_27 rfl ?_
          refine e_istore (L' := [_, _, _, _, _]) dX9_fewest_31 (Nat.le_of_ble_eq_true rfl) rfl ?_
          refine e_iload dX9_fewest_33 rfl ?_
          refine z_if_eq 48 dX9_fewest_35 rfl ⟨by omega, by omega⟩ (fun c12 => ?_) (fun c12 => ?_)
          · exfalso; omega
          · skip
            refine e_aload_n dX9_fewest_38 rfl ?_
            refine e_iload_n dX9_fewest_39 rfl ?_
            refine e_callS [.ref _, .int _] dX9_fewest_40 tm_9_106 rfl (Nat.le_of_ble_eq_true rfl) (Nat.le_refl _) (Nat.le_refl _) rfl (zp_X9_cutsAll hk HF i ⟨by omega, by omega⟩ (by omega) (fun v13 p14 => ?_))
            refine z_if_eq 48 dX9_fewest_43 rfl ⟨by omega, by omega⟩ (fun c15 => ?_) (fun c15 => ?_)
            · skip
              refine z_iinc (L' := [_, _, _, _, _]) dX9_fewest_48 rfl rfl ?_
              refine e_goto 4 dX9_fewest_51 rfl ?_
              exact mEv_wk (by exact ⟨Or.inr rfl, Or.inr rfl, Or.inr rfl, Or.inr rfl, Or.inl rfl, trivial⟩) (ih1 _ (by omega) b (i + 1)  rfl  (by omega) (by omega) (by first | exact fmax_no I3 (fun q => by rcases ‹(_ = (1 : Int) ∧ crA g i) ∨ (_ = (0 : Int) ∧ ¬ crA g i)› with z | z; exact absurd z.1 (by omega); exact z.2 q) | exact fmax_keep I3 (by omega) (by unfold crS; omega) | exact fmax_new I3 (by omega) (by rcases ‹(_ = (1 : Int) ∧ crA g i) ∨ (_ = (0 : Int) ∧ ¬ crA g i)› with z | z; exact z.2; exact absurd z.1 (by omega)) (by unfold crS; omega)))
            · skip
              refine e_iload_n dX9_fewest_46 rfl ?_
              refine e_istore_n (L' := [_, _, _, _, _]) dX9_fewest_47 (Nat.le_of_ble_eq_true rfl) rfl ?_
              refine z_iinc (L' := [_, _, _, _, _]) dX9_fewest_48 rfl rfl ?_
              refine e_goto 4 dX9_fewest_51 rfl ?_
              exact mEv_wk (by exact ⟨Or.inr rfl, Or.inr rfl, Or.inr rfl, Or.inr rfl, Or.inl rfl, trivial⟩) (ih1 _ (by omega) i (i + 1)  rfl  (by omega) (by omega) (by first | exact fmax_no I3 (fun q => by rcases ‹(_ = (1 : Int) ∧ crA g i) ∨ (_ = (0 : Int) ∧ ¬ crA g i)› with z | z; exact absurd z.1 (by omega); exact z.2 q) | exact fmax_keep I3 (by omega) (by unfold crS; omega) | exact fmax_new I3 (by omega) (by rcases ‹(_ = (1 : Int) ∧ crA g i) ∨ (_ = (0 : Int) ∧ ¬ crA g i)› with z | z; exact z.2; exact absurd z.1 (by omega)) (by unfold crS; omega)))
  exact lp1 _ (-1) 0  rfl  (by omega) (by omega) (fmax_0 _ _ (by omega))
set_option maxHeartbeats 400000 in
theorem zp_X11_crew_in {ad : mA} {dd : Nat} {h : mH} {Q : mQ} {x : Nat} {σ : Sg} (hk : bk h x) (HX : clsT h (x + 1) σ)  (f : Int) (f_r : -2147483648 ≤ f ∧ f < 2147483648) (p1 : 0 ≤ f) (p2 : f < cn σ 0) (kq : ∀ v : Int, (fmax (crB (sG σ f)) crS 64 v) → Q (some (.int (zI v))) h) : mCal TB0 ad (dd + 7) M_X11_crew [.ref x, .int (zI f)] h 0 0 Q := by
  refine ⟨Nat.le_of_ble_eq_true rfl, ?_⟩
  show mEv TB0 ad M_X11_crew (dd + 7) (0, 0) (mCal TB0 ad (dd + 6)) (fun v h' z => z.1 = 0 ∧ Q v h') 0 [some (.ref x), some (.int (zI f)), none] [] h (0, 0)
  have w1 := wS_n (clsT_w HX)
  refine e_aload_n dX11_crew_0 rfl ?_
  refine e_get (.ref (x + 1)) dX11_crew_1 tf_11_10 (congrArg Prod.fst (bk_s0 hk)) (congrArg va_rf (bk_r0_0 hk)) ?_
  refine e_iload_n dX11_crew_4 rfl ?_
  refine e_callV [.int _] dX11_crew_5 tm_11_94 rfl (Nat.le_of_ble_eq_true rfl) (congrArg Prod.fst (bk_s1 hk)) (Nat.le_of_ble_eq_true rfl) (Nat.le_refl _) (Nat.le_refl _) rfl (zp_X8_forgeAt_in (bk_td1 hk) HX f ⟨by omega, by omega⟩ (by omega) (by omega) ?_)
  have k1 := fAt_k (bk_td1 hk) f
  have H2 := clsT_F HX (show 0 ≤ f by omega) (by omega)
  have y3 := fAt_b (x + 1) f
  refine e_astore_n (L' := [_, _, _]) dX11_crew_8 (Nat.le_of_ble_eq_true rfl) rfl ?_
  refine e_aload_n dX11_crew_9 rfl ?_
  refine e_ifnonnull 17 dX11_crew_10 rfl ?_
  refine e_aload_n dX11_crew_17 rfl ?_
  refine e_get (.ref (x + 146)) dX11_crew_18 tf_11_51 (congrArg Prod.fst (bk_s0 hk)) (congrArg va_rf (bk_r0_6 hk)) ?_
  refine e_aload_n dX11_crew_21 rfl ?_
  refine e_callV [.ref _] dX11_crew_22 tm_11_256 rfl (Nat.le_of_ble_eq_true rfl) (congrArg Prod.fst (bk_s146 hk)) (Nat.le_of_ble_eq_true rfl) (Nat.le_refl _) (Nat.le_refl _) rfl (zp_X9_fewest k1 H2 (fun v4 p5 => ?_))
  refine z_iret dX11_crew_25 rfl ⟨rfl, ?_⟩
  refine kq _ ?_
  exact crew_eq ((clsT_w HX).2.2.1 f p1 p2) (by assumption)
set_option maxHeartbeats 400000 in
theorem zp_X11_crew_out {ad : mA} {dd : Nat} {h : mH} {Q : mQ} {x : Nat} {σ : Sg} (hk : bk h x) (HX : clsT h (x + 1) σ)  (f : Int) (f_r : -2147483648 ≤ f ∧ f < 2147483648) (p1 : ¬ (0 ≤ f ∧ f < cn σ 0)) (kq : Q (some (.int (zI (-1)))) h) : mCal TB0 ad (dd + 7) M_X11_crew [.ref x, .int (zI f)] h 0 0 Q := by
  refine ⟨Nat.le_of_ble_eq_true rfl, ?_⟩
  show mEv TB0 ad M_X11_crew (dd + 7) (0, 0) (mCal TB0 ad (dd + 6)) (fun v h' z => z.1 = 0 ∧ Q v h') 0 [some (.ref x), some (.int (zI f)), none] [] h (0, 0)
  have w1 := wS_n (clsT_w HX)
  refine e_aload_n dX11_crew_0 rfl ?_
  refine e_get (.ref (x + 1)) dX11_crew_1 tf_11_10 (congrArg Prod.fst (bk_s0 hk)) (congrArg va_rf (bk_r0_0 hk)) ?_
  refine e_iload_n dX11_crew_4 rfl ?_
  refine e_callV [.int _] dX11_crew_5 tm_11_94 rfl (Nat.le_of_ble_eq_true rfl) (congrArg Prod.fst (bk_s1 hk)) (Nat.le_of_ble_eq_true rfl) (Nat.le_refl _) (Nat.le_refl _) rfl (zp_X8_forgeAt_out (bk_td1 hk) HX f ⟨by omega, by omega⟩ (by omega) ?_)
  refine e_astore_nN (L' := [_, _, _]) dX11_crew_8 (Nat.le_of_ble_eq_true rfl) rfl ?_
  refine e_aload_nN dX11_crew_9 rfl ?_
  refine e_ifnonnullN 17 dX11_crew_10 rfl ?_
  refine z_iconst (-1) dX11_crew_13 rfl ?_
  refine e_goto 25 dX11_crew_14 rfl ?_
  refine z_iret dX11_crew_25 rfl ⟨rfl, ?_⟩
  refine z_q kq ?_
  rfl
