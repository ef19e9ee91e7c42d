/-! TEXT: lines of a forge, as the class takes them -/
theorem dX6_bladeLine_0 : decode cX6_bladeLine 0 = .ok (.aload_n 0, 1) := by decide +kernel
theorem dX6_bladeLine_1 : decode cX6_bladeLine 1 = .ok (.aload_n 1, 1) := by decide +kernel
theorem dX6_bladeLine_2 : decode cX6_bladeLine 2 = .ok (.getfield 86, 3) := by decide +kernel
theorem dX6_bladeLine_5 : decode cX6_bladeLine 5 = .ok (.bipush 6, 2) := by decide +kernel
theorem dX6_bladeLine_7 : decode cX6_bladeLine 7 = .ok (.if_icmp .lt 7, 3) := by decide +kernel
theorem dX6_bladeLine_10 : decode cX6_bladeLine 10 = .ok (.iconst 1, 1) := by decide +kernel
theorem dX6_bladeLine_11 : decode cX6_bladeLine 11 = .ok (.goto 4, 3) := by decide +kernel
theorem dX6_bladeLine_14 : decode cX6_bladeLine 14 = .ok (.iconst 0, 1) := by decide +kernel
theorem dX6_bladeLine_15 : decode cX6_bladeLine 15 = .ok (.invokevirtual 146, 3) := by decide +kernel
theorem dX6_bladeLine_18 : decode cX6_bladeLine 18 = .ok (.iconst 0, 1) := by decide +kernel
theorem dX6_bladeLine_19 : decode cX6_bladeLine 19 = .ok (.istore_n 2, 1) := by decide +kernel
theorem dX6_bladeLine_20 : decode cX6_bladeLine 20 = .ok (.iload_n 2, 1) := by decide +kernel
theorem dX6_bladeLine_21 : decode cX6_bladeLine 21 = .ok (.iconst 4, 1) := by decide +kernel
theorem dX6_bladeLine_22 : decode cX6_bladeLine 22 = .ok (.if_icmp .ge 29, 3) := by decide +kernel
theorem dX6_bladeLine_25 : decode cX6_bladeLine 25 = .ok (.aload_n 0, 1) := by decide +kernel
theorem dX6_bladeLine_26 : decode cX6_bladeLine 26 = .ok (.iload_n 2, 1) := by decide +kernel
theorem dX6_bladeLine_27 : decode cX6_bladeLine 27 = .ok (.getstatic 150, 3) := by decide +kernel
theorem dX6_bladeLine_30 : decode cX6_bladeLine 30 = .ok (.iload_n 2, 1) := by decide +kernel
theorem dX6_bladeLine_31 : decode cX6_bladeLine 31 = .ok (.iaload, 1) := by decide +kernel
theorem dX6_bladeLine_32 : decode cX6_bladeLine 32 = .ok (.getstatic 153, 3) := by decide +kernel
theorem dX6_bladeLine_35 : decode cX6_bladeLine 35 = .ok (.iload_n 2, 1) := by decide +kernel
theorem dX6_bladeLine_36 : decode cX6_bladeLine 36 = .ok (.iaload, 1) := by decide +kernel
theorem dX6_bladeLine_37 : decode cX6_bladeLine 37 = .ok (.invokevirtual 156, 3) := by decide +kernel
theorem dX6_bladeLine_40 : decode cX6_bladeLine 40 = .ok (.ifCond .ne 5, 3) := by decide +kernel
theorem dX6_bladeLine_43 : decode cX6_bladeLine 43 = .ok (.iconst 0, 1) := by decide +kernel
theorem dX6_bladeLine_44 : decode cX6_bladeLine 44 = .ok (.ireturn, 1) := by decide +kernel
theorem dX6_bladeLine_45 : decode cX6_bladeLine 45 = .ok (.iinc 2 1, 3) := by decide +kernel
theorem dX6_bladeLine_48 : decode cX6_bladeLine 48 = .ok (.goto (-28), 3) := by decide +kernel
theorem dX6_bladeLine_51 : decode cX6_bladeLine 51 = .ok (.aload_n 1, 1) := by decide +kernel
theorem dX6_bladeLine_52 : decode cX6_bladeLine 52 = .ok (.aload_n 0, 1) := by decide +kernel
theorem dX6_bladeLine_53 : decode cX6_bladeLine 53 = .ok (.getfield 43, 3) := by decide +kernel
theorem dX6_bladeLine_56 : decode cX6_bladeLine 56 = .ok (.iconst 0, 1) := by decide +kernel
theorem dX6_bladeLine_57 : decode cX6_bladeLine 57 = .ok (.iaload, 1) := by decide +kernel
theorem dX6_bladeLine_58 : decode cX6_bladeLine 58 = .ok (.aload_n 0, 1) := by decide +kernel
theorem dX6_bladeLine_59 : decode cX6_bladeLine 59 = .ok (.getfield 43, 3) := by decide +kernel
theorem dX6_bladeLine_62 : decode cX6_bladeLine 62 = .ok (.iconst 1, 1) := by decide +kernel
theorem dX6_bladeLine_63 : decode cX6_bladeLine 63 = .ok (.iaload, 1) := by decide +kernel
theorem dX6_bladeLine_64 : decode cX6_bladeLine 64 = .ok (.aload_n 0, 1) := by decide +kernel
theorem dX6_bladeLine_65 : decode cX6_bladeLine 65 = .ok (.getfield 43, 3) := by decide +kernel
theorem dX6_bladeLine_68 : decode cX6_bladeLine 68 = .ok (.iconst 2, 1) := by decide +kernel
theorem dX6_bladeLine_69 : decode cX6_bladeLine 69 = .ok (.iaload, 1) := by decide +kernel
theorem dX6_bladeLine_70 : decode cX6_bladeLine 70 = .ok (.aload_n 0, 1) := by decide +kernel
theorem dX6_bladeLine_71 : decode cX6_bladeLine 71 = .ok (.getfield 43, 3) := by decide +kernel
theorem dX6_bladeLine_74 : decode cX6_bladeLine 74 = .ok (.iconst 3, 1) := by decide +kernel
theorem dX6_bladeLine_75 : decode cX6_bladeLine 75 = .ok (.iaload, 1) := by decide +kernel
theorem dX6_bladeLine_76 : decode cX6_bladeLine 76 = .ok (.invokevirtual 160, 3) := by decide +kernel
theorem dX6_bladeLine_79 : decode cX6_bladeLine 79 = .ok (.aload_n 0, 1) := by decide +kernel
theorem dX6_bladeLine_80 : decode cX6_bladeLine 80 = .ok (.invokevirtual 164, 3) := by decide +kernel
theorem dX6_bladeLine_83 : decode cX6_bladeLine 83 = .ok (.ireturn, 1) := by decide +kernel
theorem dX6_clothLine_0 : decode cX6_clothLine 0 = .ok (.aload_n 0, 1) := by decide +kernel
theorem dX6_clothLine_1 : decode cX6_clothLine 1 = .ok (.aload_n 0, 1) := by decide +kernel
theorem dX6_clothLine_2 : decode cX6_clothLine 2 = .ok (.getfield 12, 3) := by decide +kernel
theorem dX6_clothLine_5 : decode cX6_clothLine 5 = .ok (.getfield 167, 3) := by decide +kernel
theorem dX6_clothLine_8 : decode cX6_clothLine 8 = .ok (.bipush 6, 2) := by decide +kernel
theorem dX6_clothLine_10 : decode cX6_clothLine 10 = .ok (.if_icmp .lt 7, 3) := by decide +kernel
theorem dX6_clothLine_13 : decode cX6_clothLine 13 = .ok (.iconst 1, 1) := by decide +kernel
theorem dX6_clothLine_14 : decode cX6_clothLine 14 = .ok (.goto 4, 3) := by decide +kernel
theorem dX6_clothLine_17 : decode cX6_clothLine 17 = .ok (.iconst 0, 1) := by decide +kernel
theorem dX6_clothLine_18 : decode cX6_clothLine 18 = .ok (.invokevirtual 146, 3) := by decide +kernel
theorem dX6_clothLine_21 : decode cX6_clothLine 21 = .ok (.iconst 0, 1) := by decide +kernel
theorem dX6_clothLine_22 : decode cX6_clothLine 22 = .ok (.istore_n 1, 1) := by decide +kernel
theorem dX6_clothLine_23 : decode cX6_clothLine 23 = .ok (.iload_n 1, 1) := by decide +kernel
theorem dX6_clothLine_24 : decode cX6_clothLine 24 = .ok (.iconst 3, 1) := by decide +kernel
theorem dX6_clothLine_25 : decode cX6_clothLine 25 = .ok (.if_icmp .ge 29, 3) := by decide +kernel
theorem dX6_clothLine_28 : decode cX6_clothLine 28 = .ok (.aload_n 0, 1) := by decide +kernel
theorem dX6_clothLine_29 : decode cX6_clothLine 29 = .ok (.iload_n 1, 1) := by decide +kernel
theorem dX6_clothLine_30 : decode cX6_clothLine 30 = .ok (.getstatic 170, 3) := by decide +kernel
theorem dX6_clothLine_33 : decode cX6_clothLine 33 = .ok (.iload_n 1, 1) := by decide +kernel
theorem dX6_clothLine_34 : decode cX6_clothLine 34 = .ok (.iaload, 1) := by decide +kernel
theorem dX6_clothLine_35 : decode cX6_clothLine 35 = .ok (.getstatic 173, 3) := by decide +kernel
theorem dX6_clothLine_38 : decode cX6_clothLine 38 = .ok (.iload_n 1, 1) := by decide +kernel
theorem dX6_clothLine_39 : decode cX6_clothLine 39 = .ok (.iaload, 1) := by decide +kernel
theorem dX6_clothLine_40 : decode cX6_clothLine 40 = .ok (.invokevirtual 156, 3) := by decide +kernel
theorem dX6_clothLine_43 : decode cX6_clothLine 43 = .ok (.ifCond .ne 5, 3) := by decide +kernel
theorem dX6_clothLine_46 : decode cX6_clothLine 46 = .ok (.iconst 0, 1) := by decide +kernel
theorem dX6_clothLine_47 : decode cX6_clothLine 47 = .ok (.ireturn, 1) := by decide +kernel
theorem dX6_clothLine_48 : decode cX6_clothLine 48 = .ok (.iinc 1 1, 3) := by decide +kernel
theorem dX6_clothLine_51 : decode cX6_clothLine 51 = .ok (.goto (-28), 3) := by decide +kernel
theorem dX6_clothLine_54 : decode cX6_clothLine 54 = .ok (.aload_n 0, 1) := by decide +kernel
theorem dX6_clothLine_55 : decode cX6_clothLine 55 = .ok (.getfield 12, 3) := by decide +kernel
theorem dX6_clothLine_58 : decode cX6_clothLine 58 = .ok (.aload_n 0, 1) := by decide +kernel
theorem dX6_clothLine_59 : decode cX6_clothLine 59 = .ok (.getfield 43, 3) := by decide +kernel
theorem dX6_clothLine_62 : decode cX6_clothLine 62 = .ok (.iconst 0, 1) := by decide +kernel
theorem dX6_clothLine_63 : decode cX6_clothLine 63 = .ok (.iaload, 1) := by decide +kernel
theorem dX6_clothLine_64 : decode cX6_clothLine 64 = .ok (.aload_n 0, 1) := by decide +kernel
theorem dX6_clothLine_65 : decode cX6_clothLine 65 = .ok (.getfield 43, 3) := by decide +kernel
theorem dX6_clothLine_68 : decode cX6_clothLine 68 = .ok (.iconst 1, 1) := by decide +kernel
theorem dX6_clothLine_69 : decode cX6_clothLine 69 = .ok (.iaload, 1) := by decide +kernel
theorem dX6_clothLine_70 : decode cX6_clothLine 70 = .ok (.aload_n 0, 1) := by decide +kernel
theorem dX6_clothLine_71 : decode cX6_clothLine 71 = .ok (.getfield 43, 3) := by decide +kernel
theorem dX6_clothLine_74 : decode cX6_clothLine 74 = .ok (.iconst 2, 1) := by decide +kernel
theorem dX6_clothLine_75 : decode cX6_clothLine 75 = .ok (.iaload, 1) := by decide +kernel
theorem dX6_clothLine_76 : decode cX6_clothLine 76 = .ok (.invokevirtual 176, 3) := by decide +kernel
theorem dX6_clothLine_79 : decode cX6_clothLine 79 = .ok (.aload_n 0, 1) := by decide +kernel
theorem dX6_clothLine_80 : decode cX6_clothLine 80 = .ok (.invokevirtual 164, 3) := by decide +kernel
theorem dX6_clothLine_83 : decode cX6_clothLine 83 = .ok (.ireturn, 1) := by decide +kernel
theorem dX6_rivetLine_0 : decode cX6_rivetLine 0 = .ok (.aload_n 0, 1) := by decide +kernel
theorem dX6_rivetLine_1 : decode cX6_rivetLine 1 = .ok (.iconst 0, 1) := by decide +kernel
theorem dX6_rivetLine_2 : decode cX6_rivetLine 2 = .ok (.invokevirtual 146, 3) := by decide +kernel
theorem dX6_rivetLine_5 : decode cX6_rivetLine 5 = .ok (.aload_n 0, 1) := by decide +kernel
theorem dX6_rivetLine_6 : decode cX6_rivetLine 6 = .ok (.iconst 0, 1) := by decide +kernel
theorem dX6_rivetLine_7 : decode cX6_rivetLine 7 = .ok (.iconst 0, 1) := by decide +kernel
theorem dX6_rivetLine_8 : decode cX6_rivetLine 8 = .ok (.iconst 5, 1) := by decide +kernel
theorem dX6_rivetLine_9 : decode cX6_rivetLine 9 = .ok (.invokevirtual 156, 3) := by decide +kernel
theorem dX6_rivetLine_12 : decode cX6_rivetLine 12 = .ok (.ifCond .eq 13, 3) := by decide +kernel
theorem dX6_rivetLine_15 : decode cX6_rivetLine 15 = .ok (.aload_n 0, 1) := by decide +kernel
theorem dX6_rivetLine_16 : decode cX6_rivetLine 16 = .ok (.iconst 1, 1) := by decide +kernel
theorem dX6_rivetLine_17 : decode cX6_rivetLine 17 = .ok (.iconst 0, 1) := by decide +kernel
theorem dX6_rivetLine_18 : decode cX6_rivetLine 18 = .ok (.iconst 5, 1) := by decide +kernel
theorem dX6_rivetLine_19 : decode cX6_rivetLine 19 = .ok (.invokevirtual 156, 3) := by decide +kernel
theorem dX6_rivetLine_22 : decode cX6_rivetLine 22 = .ok (.ifCond .ne 5, 3) := by decide +kernel
theorem dX6_rivetLine_25 : decode cX6_rivetLine 25 = .ok (.iconst 0, 1) := by decide +kernel
theorem dX6_rivetLine_26 : decode cX6_rivetLine 26 = .ok (.ireturn, 1) := by decide +kernel
theorem dX6_rivetLine_27 : decode cX6_rivetLine 27 = .ok (.aload_n 0, 1) := by decide +kernel
theorem dX6_rivetLine_28 : decode cX6_rivetLine 28 = .ok (.getfield 43, 3) := by decide +kernel
theorem dX6_rivetLine_31 : decode cX6_rivetLine 31 = .ok (.iconst 0, 1) := by decide +kernel
theorem dX6_rivetLine_32 : decode cX6_rivetLine 32 = .ok (.iaload, 1) := by decide +kernel
theorem dX6_rivetLine_33 : decode cX6_rivetLine 33 = .ok (.bipush 6, 2) := by decide +kernel
theorem dX6_rivetLine_35 : decode cX6_rivetLine 35 = .ok (.if_icmp .ge 67, 3) := by decide +kernel
theorem dX6_rivetLine_38 : decode cX6_rivetLine 38 = .ok (.aload_n 0, 1) := by decide +kernel
theorem dX6_rivetLine_39 : decode cX6_rivetLine 39 = .ok (.getfield 43, 3) := by decide +kernel
theorem dX6_rivetLine_42 : decode cX6_rivetLine 42 = .ok (.iconst 1, 1) := by decide +kernel
theorem dX6_rivetLine_43 : decode cX6_rivetLine 43 = .ok (.iaload, 1) := by decide +kernel
theorem dX6_rivetLine_44 : decode cX6_rivetLine 44 = .ok (.bipush 6, 2) := by decide +kernel
theorem dX6_rivetLine_46 : decode cX6_rivetLine 46 = .ok (.if_icmp .ge 56, 3) := by decide +kernel
theorem dX6_rivetLine_49 : decode cX6_rivetLine 49 = .ok (.aload_n 0, 1) := by decide +kernel
theorem dX6_rivetLine_50 : decode cX6_rivetLine 50 = .ok (.dup, 1) := by decide +kernel
theorem dX6_rivetLine_51 : decode cX6_rivetLine 51 = .ok (.getfield 62, 3) := by decide +kernel
theorem dX6_rivetLine_54 : decode cX6_rivetLine 54 = .ok (.iconst 1, 1) := by decide +kernel
theorem dX6_rivetLine_55 : decode cX6_rivetLine 55 = .ok (.aload_n 0, 1) := by decide +kernel
theorem dX6_rivetLine_56 : decode cX6_rivetLine 56 = .ok (.getfield 43, 3) := by decide +kernel
theorem dX6_rivetLine_59 : decode cX6_rivetLine 59 = .ok (.iconst 0, 1) := by decide +kernel
theorem dX6_rivetLine_60 : decode cX6_rivetLine 60 = .ok (.iaload, 1) := by decide +kernel
theorem dX6_rivetLine_61 : decode cX6_rivetLine 61 = .ok (.ishl, 1) := by decide +kernel
theorem dX6_rivetLine_62 : decode cX6_rivetLine 62 = .ok (.ior, 1) := by decide +kernel
theorem dX6_rivetLine_63 : decode cX6_rivetLine 63 = .ok (.putfield 62, 3) := by decide +kernel
theorem dX6_rivetLine_66 : decode cX6_rivetLine 66 = .ok (.aload_n 0, 1) := by decide +kernel
theorem dX6_rivetLine_67 : decode cX6_rivetLine 67 = .ok (.dup, 1) := by decide +kernel
theorem dX6_rivetLine_68 : decode cX6_rivetLine 68 = .ok (.getfield 65, 3) := by decide +kernel
theorem dX6_rivetLine_71 : decode cX6_rivetLine 71 = .ok (.iconst 1, 1) := by decide +kernel
theorem dX6_rivetLine_72 : decode cX6_rivetLine 72 = .ok (.aload_n 0, 1) := by decide +kernel
theorem dX6_rivetLine_73 : decode cX6_rivetLine 73 = .ok (.getfield 43, 3) := by decide +kernel
theorem dX6_rivetLine_76 : decode cX6_rivetLine 76 = .ok (.iconst 1, 1) := by decide +kernel
theorem dX6_rivetLine_77 : decode cX6_rivetLine 77 = .ok (.iaload, 1) := by decide +kernel
theorem dX6_rivetLine_78 : decode cX6_rivetLine 78 = .ok (.ishl, 1) := by decide +kernel
theorem dX6_rivetLine_79 : decode cX6_rivetLine 79 = .ok (.ior, 1) := by decide +kernel
theorem dX6_rivetLine_80 : decode cX6_rivetLine 80 = .ok (.putfield 65, 3) := by decide +kernel
theorem dX6_rivetLine_83 : decode cX6_rivetLine 83 = .ok (.aload_n 0, 1) := by decide +kernel
theorem dX6_rivetLine_84 : decode cX6_rivetLine 84 = .ok (.getfield 12, 3) := by decide +kernel
theorem dX6_rivetLine_87 : decode cX6_rivetLine 87 = .ok (.aload_n 0, 1) := by decide +kernel
theorem dX6_rivetLine_88 : decode cX6_rivetLine 88 = .ok (.getfield 43, 3) := by decide +kernel
theorem dX6_rivetLine_91 : decode cX6_rivetLine 91 = .ok (.iconst 0, 1) := by decide +kernel
theorem dX6_rivetLine_92 : decode cX6_rivetLine 92 = .ok (.iaload, 1) := by decide +kernel
theorem dX6_rivetLine_93 : decode cX6_rivetLine 93 = .ok (.aload_n 0, 1) := by decide +kernel
theorem dX6_rivetLine_94 : decode cX6_rivetLine 94 = .ok (.getfield 43, 3) := by decide +kernel
theorem dX6_rivetLine_97 : decode cX6_rivetLine 97 = .ok (.iconst 1, 1) := by decide +kernel
theorem dX6_rivetLine_98 : decode cX6_rivetLine 98 = .ok (.iaload, 1) := by decide +kernel
theorem dX6_rivetLine_99 : decode cX6_rivetLine 99 = .ok (.invokevirtual 180, 3) := by decide +kernel
theorem dX6_rivetLine_102 : decode cX6_rivetLine 102 = .ok (.aload_n 0, 1) := by decide +kernel
theorem dX6_rivetLine_103 : decode cX6_rivetLine 103 = .ok (.invokevirtual 164, 3) := by decide +kernel
theorem dX6_rivetLine_106 : decode cX6_rivetLine 106 = .ok (.ireturn, 1) := by decide +kernel
theorem tf_6_86 : tFld TB0 6 86 = some (0, 5) := rfl
theorem tf_6_167 : tFld TB0 6 167 = some (2, 5) := rfl
set_option maxRecDepth 20000 in
theorem tm_6_146 : tMet TB0 6 146 = some (0, M_X6_beginLine) := rfl
set_option maxRecDepth 20000 in
theorem tm_6_156 : tMet TB0 6 156 = some (0, M_X6_takeNumber) := rfl
set_option maxRecDepth 20000 in
theorem tm_6_160 : tMet TB0 6 160 = some (0, M_X0_add) := rfl
set_option maxRecDepth 20000 in
theorem tm_6_164 : tMet TB0 6 164 = some (0, M_X6_takeStop) := rfl
set_option maxRecDepth 20000 in
theorem tm_6_176 : tMet TB0 6 176 = some (0, M_X2_addCloth) := rfl
set_option maxRecDepth 20000 in
theorem tm_6_180 : tMet TB0 6 180 = some (0, M_X2_join) := rfl
theorem ts_6_150 : tSta TB0 6 150 = some 0 := rfl
theorem ts_6_153 : tSta TB0 6 153 = some 1 := rfl
theorem ts_6_170 : tSta TB0 6 170 = some 2 := rfl
theorem ts_6_173 : tSta TB0 6 173 = some 3 := rfl
/-! TEXT: lines of a forge, as the class takes them -/
def rdB (h : mH) (y : Nat) (D U : Int) : Prop := rI h y 12 = D ∧ rI h y 13 = U ∧ ((0 ≤ D ∧ D < 64) ∧ (0 ≤ U ∧ U < 64))
theorem rdB_c {S : Nat → Nat → Prop} {h h1 : mH} {y : Nat} {D U : Int} (s : frm S h h1) (z : ∀ a k, a = y ∧ (k = 12 ∨ k = 13) → ¬ S a k) (H : rdB h y D U) : rdB h1 y D U := ⟨(frm_r s (z _ _ (by omega))).trans H.1, (frm_r s (z _ _ (by omega))).trans H.2.1, H.2.2⟩
def lnO (h1 : mH) (y : Nat) (T : Int → Int) (L : Int) (bs : List (Int × Int)) (p0 f1 q1 v : Int) (C : Prop) : Prop := (v = 1 ∧ acL T L bs p0 ∧ rdP h1 y T L (enL T L bs p0) ∧ rdF h1 y (ffL T L bs p0 f1) (fqL T L bs p0 f1 q1) ∧ C) ∨ (v = 0 ∧ ¬ acL T L bs p0 ∧ rdF h1 y 1 (xpL T L bs p0))
set_option maxHeartbeats 4000000 in
theorem zp_X6_bladeLine_0 {ad : mA} {dd : Nat} {h : mH} {Q : mQ} {y : Nat} {T G : Int → Int} {L p f q : Int} (hk : rdk h y) (HT : rdT h y T L) (HP : rdP h y T L p) (HF : rdF h y f q) (HG : rwF h (y + 1) G) (HA : adK ad)  (pw : wfR G) (kq : ∀ v : Int, (v = 0 ∨ v = 1) → ∀ h1, frm (fun a k => (a = y ∧ (k = 3 ∨ k = 4 ∨ (8 ≤ k ∧ k ≤ 11))) ∨ (y + 1 ≤ a ∧ a < y + 25) ∨ a = y + 26) h h1 → (lnO h1 y T L [(1, 20), (0, 3), (0, 20), (0, 1)] (tkE T L p) (ntF (6 ≤ nd G) 3 f) (ntQ (6 ≤ nd G) (tkS T L p) f q) v (rwF h1 (y + 1) (adG G 0 (tkV T L (tkE T L p)) (tkV T L (tkE T L (tkE T L p))) (tkV T L (tkE T L (tkE T L (tkE T L p)))) (tkV T L (tkE T L (tkE T L (tkE T L (tkE T L p)))))))) → Q (some (.int (zI v))) h1) : mCal TB0 ad (dd + 5) M_X6_bladeLine [.ref y, .ref (y + 2)] h 0 0 Q := by
  refine ⟨Nat.le_of_ble_eq_true rfl, ?_⟩
  show mEv TB0 ad M_X6_bladeLine (dd + 5) (0, 0) (mCal TB0 ad (dd + 4)) (fun v h' z => z.1 = 0 ∧ Q v h') 0 [some (.ref y), some (.ref (y + 2)), none] [] h (0, 0)
  have FR0 : frm (fun a k => (a = y ∧ (k = 3 ∨ k = 4 ∨ (8 ≤ k ∧ k ≤ 11))) ∨ (y + 1 ≤ a ∧ a < y + 25) ∨ a = y + 26) h h := frm_0 h
  have wn1 := pw.1
  have wn2 := pw.2.1
  have wn3 := pw.2.2.1
  have w1 := HT.1
  have tb := tk_b (T := T) HP.1.1 HP.1.2
  have p0 := HP.1
  refine e_aload_n dX6_bladeLine_0 rfl ?_
  refine e_aload_n dX6_bladeLine_1 rfl ?_
  refine z_get (nd G) dX6_bladeLine_2 tf_6_86 (congrArg Prod.fst (rd_s2 hk)) (Or.inl rfl) HG.1.1 ?_
  refine z_bipush (6) dX6_bladeLine_5 rfl ?_
  refine z_icmp_lt 14 dX6_bladeLine_7 rfl ⟨by omega, by omega⟩ ⟨by omega, by omega⟩ (fun c1 => ?_) (fun c1 => ?_)
  · skip
    refine z_iconst (0) dX6_bladeLine_14 rfl ?_
    refine e_callV [.int _] dX6_bladeLine_15 tm_6_146 rfl (Nat.le_of_ble_eq_true rfl) (congrArg Prod.fst (rd_s0 hk)) (Nat.le_of_ble_eq_true rfl) (Nat.le_refl _) (Nat.le_refl _) rfl (zp_X6_beginLine hk HT HP HF False (fun  h2 f3 p4 p5 p6 => ?_))
    have k7 := lk_q (frm_s f3) hk
    have H8 := rdT_c f3 (fun a k q => by omega) HT
    have H9 := rwF_c f3 (fun a k q1 q2 => by omega) HG
    have FR10 := frm_t FR0 (frm_m (S' := (fun a k => (a = y ∧ (k = 3 ∨ k = 4 ∨ (8 ≤ k ∧ k ≤ 11))) ∨ (y + 1 ≤ a ∧ a < y + 25) ∨ a = y + 26)) f3 (fun a k q => by omega))
    have F11 : rdF h2 y (ntF (6 ≤ nd G) 3 f) (ntQ (6 ≤ nd G) (tkS T L p) f q) := by rw [(nt_iff (c := 6 ≤ nd G) (c' := False) (k := 3) (s := tkS T L p) (f := f) (q := q) ⟨fun z => absurd z (by omega), fun z => z.elim⟩).1, (nt_iff (c := 6 ≤ nd G) (c' := False) (k := 3) (s := tkS T L p) (f := f) (q := q) ⟨fun z => absurd z (by omega), fun z => z.elim⟩).2]; exact p5
    refine z_iconst (0) dX6_bladeLine_18 rfl ?_
    refine e_istore_n (L' := [_, _, _]) dX6_bladeLine_19 (Nat.le_of_ble_eq_true rfl) rfl ?_
    refine e_iload_n dX6_bladeLine_20 rfl ?_
    refine z_iconst (4) dX6_bladeLine_21 rfl ?_
    refine z_icmp_ge 51 dX6_bladeLine_22 rfl ⟨by omega, by omega⟩ ⟨by omega, by omega⟩ (fun c12 => ?_) (fun c12 => ?_)
    · exfalso; omega
    · skip
      refine e_aload_n dX6_bladeLine_25 rfl ?_
      refine e_iload_n dX6_bladeLine_26 rfl ?_
      refine e_gets dX6_bladeLine_27 ts_6_150 ?_
      refine e_iload_n dX6_bladeLine_30 rfl ?_
      refine z_oldK 1 dX6_bladeLine_31 (Or.inl (by decide)) (HA 0 (by decide)).1 (by decide) (by decide) (by decide) (by rw [(HA 0 (by decide)).2]; decide) ?_
      refine e_gets dX6_bladeLine_32 ts_6_153 ?_
      refine e_iload_n dX6_bladeLine_35 rfl ?_
      refine z_oldK 20 dX6_bladeLine_36 (Or.inl (by decide)) (HA 1 (by decide)).1 (by decide) (by decide) (by decide) (by rw [(HA 1 (by decide)).2]; decide) ?_
      refine e_callV [.int _, .int _, .int _] dX6_bladeLine_37 tm_6_156 rfl (Nat.le_of_ble_eq_true rfl) (congrArg Prod.fst (rd_s0 k7)) (Nat.le_of_ble_eq_true rfl) (Nat.le_refl _) (Nat.le_refl _) rfl (zp_X6_takeNumber k7 H8 p4 F11 0 ⟨by omega, by omega⟩ 1 ⟨by omega, by omega⟩ 20 ⟨by omega, by omega⟩ (by omega) (fun v13 p14 h15 f16 p17 => ?_))
      have k18 := lk_q (frm_s f16) k7
      have H19 := rdT_c f16 (fun a k q => by omega) H8
      have H20 := rwF_c f16 (fun a k q1 q2 => by omega) H9
      have FR21 := frm_t FR10 (frm_m (S' := (fun a k => (a = y ∧ (k = 3 ∨ k = 4 ∨ (8 ≤ k ∧ k ≤ 11))) ∨ (y + 1 ≤ a ∧ a < y + 25) ∨ a = y + 26)) f16 (fun a k q => by omega))
      skip
      refine z_if_ne 45 dX6_bladeLine_40 rfl ⟨by omega, by omega⟩ (fun c22 => ?_) (fun c22 => ?_)
      · skip
        obtain ⟨K23, K23p, K23f, K23n⟩ := tn_1 p17 (by omega)
        refine z_iinc (L' := [_, _, _]) dX6_bladeLine_45 rfl rfl ?_
        refine e_goto 20 dX6_bladeLine_48 rfl ?_
        refine e_iload_n dX6_bladeLine_20 rfl ?_
        refine z_iconst (4) dX6_bladeLine_21 rfl ?_
        refine z_icmp_ge 51 dX6_bladeLine_22 rfl ⟨by omega, by omega⟩ ⟨by omega, by omega⟩ (fun c24 => ?_) (fun c24 => ?_)
        · exfalso; omega
        · skip
          refine e_aload_n dX6_bladeLine_25 rfl ?_
          refine e_iload_n dX6_bladeLine_26 rfl ?_
          refine e_gets dX6_bladeLine_27 ts_6_150 ?_
          refine e_iload_n dX6_bladeLine_30 rfl ?_
          refine z_oldK 0 dX6_bladeLine_31 (Or.inl (by decide)) (HA 0 (by decide)).1 (by decide) (by decide) (by decide) (by rw [(HA 0 (by decide)).2]; decide) ?_
          refine e_gets dX6_bladeLine_32 ts_6_153 ?_
          refine e_iload_n dX6_bladeLine_35 rfl ?_
          refine z_oldK 3 dX6_bladeLine_36 (Or.inl (by decide)) (HA 1 (by decide)).1 (by decide) (by decide) (by decide) (by rw [(HA 1 (by decide)).2]; decide) ?_
          refine e_callV [.int _, .int _, .int _] dX6_bladeLine_37 tm_6_156 rfl (Nat.le_of_ble_eq_true rfl) (congrArg Prod.fst (rd_s0 k18)) (Nat.le_of_ble_eq_true rfl) (Nat.le_refl _) (Nat.le_refl _) rfl (zp_X6_takeNumber k18 H19 K23p K23f 1 ⟨by omega, by omega⟩ 0 ⟨by omega, by omega⟩ 3 ⟨by omega, by omega⟩ (by omega) (fun v25 p26 h27 f28 p29 => ?_))
          have k30 := lk_q (frm_s f28) k18
          have H31 := rdT_c f28 (fun a k q => by omega) H19
          have H32 := rwF_c f28 (fun a k q1 q2 => by omega) H20
          have FR33 := frm_t FR21 (frm_m (S' := (fun a k => (a = y ∧ (k = 3 ∨ k = 4 ∨ (8 ≤ k ∧ k ≤ 11))) ∨ (y + 1 ≤ a ∧ a < y + 25) ∨ a = y + 26)) f28 (fun a k q => by omega))
          skip
          refine z_if_ne 45 dX6_bladeLine_40 rfl ⟨by omega, by omega⟩ (fun c34 => ?_) (fun c34 => ?_)
          · skip
            obtain ⟨K35, K35p, K35f, K35n⟩ := tn_1 p29 (by omega)
            refine z_iinc (L' := [_, _, _]) dX6_bladeLine_45 rfl rfl ?_
            refine e_goto 20 dX6_bladeLine_48 rfl ?_
            refine e_iload_n dX6_bladeLine_20 rfl ?_
            refine z_iconst (4) dX6_bladeLine_21 rfl ?_
            refine z_icmp_ge 51 dX6_bladeLine_22 rfl ⟨by omega, by omega⟩ ⟨by omega, by omega⟩ (fun c36 => ?_) (fun c36 => ?_)
            · exfalso; omega
            · skip
              refine e_aload_n dX6_bladeLine_25 rfl ?_
              refine e_iload_n dX6_bladeLine_26 rfl ?_
              refine e_gets dX6_bladeLine_27 ts_6_150 ?_
              refine e_iload_n dX6_bladeLine_30 rfl ?_
              refine z_oldK 0 dX6_bladeLine_31 (Or.inl (by decide)) (HA 0 (by decide)).1 (by decide) (by decide) (by decide) (by rw [(HA 0 (by decide)).2]; decide) ?_
              refine e_gets dX6_bladeLine_32 ts_6_153 ?_
              refine e_iload_n dX6_bladeLine_35 rfl ?_
              refine z_oldK 20 dX6_bladeLine_36 (Or.inl (by decide)) (HA 1 (by decide)).1 (by decide) (by decide) (by decide) (by rw [(HA 1 (by decide)).2]; decide) ?_
              refine e_callV [.int _, .int _, .int _] dX6_bladeLine_37 tm_6_156 rfl (Nat.le_of_ble_eq_true rfl) (congrArg Prod.fst (rd_s0 k30)) (Nat.le_of_ble_eq_true rfl) (Nat.le_refl _) (Nat.le_refl _) rfl (zp_X6_takeNumber k30 H31 K35p K35f 2 ⟨by omega, by omega⟩ 0 ⟨by omega, by omega⟩ 20 ⟨by omega, by omega⟩ (by omega) (fun v37 p38 h39 f40 p41 => ?_))
              have k42 := lk_q (frm_s f40) k30
              have H43 := rdT_c f40 (fun a k q => by omega) H31
              have H44 := rwF_c f40 (fun a k q1 q2 => by omega) H32
              have FR45 := frm_t FR33 (frm_m (S' := (fun a k => (a = y ∧ (k = 3 ∨ k = 4 ∨ (8 ≤ k ∧ k ≤ 11))) ∨ (y + 1 ≤ a ∧ a < y + 25) ∨ a = y + 26)) f40 (fun a k q => by omega))
              skip
              refine z_if_ne 45 dX6_bladeLine_40 rfl ⟨by omega, by omega⟩ (fun c46 => ?_) (fun c46 => ?_)
              · skip
                obtain ⟨K47, K47p, K47f, K47n⟩ := tn_1 p41 (by omega)
                refine z_iinc (L' := [_, _, _]) dX6_bladeLine_45 rfl rfl ?_
                refine e_goto 20 dX6_bladeLine_48 rfl ?_
                refine e_iload_n dX6_bladeLine_20 rfl ?_
                refine z_iconst (4) dX6_bladeLine_21 rfl ?_
                refine z_icmp_ge 51 dX6_bladeLine_22 rfl ⟨by omega, by omega⟩ ⟨by omega, by omega⟩ (fun c48 => ?_) (fun c48 => ?_)
                · exfalso; omega
                · skip
                  refine e_aload_n dX6_bladeLine_25 rfl ?_
                  refine e_iload_n dX6_bladeLine_26 rfl ?_
                  refine e_gets dX6_bladeLine_27 ts_6_150 ?_
                  refine e_iload_n dX6_bladeLine_30 rfl ?_
                  refine z_oldK 0 dX6_bladeLine_31 (Or.inl (by decide)) (HA 0 (by decide)).1 (by decide) (by decide) (by decide) (by rw [(HA 0 (by decide)).2]; decide) ?_
                  refine e_gets dX6_bladeLine_32 ts_6_153 ?_
                  refine e_iload_n dX6_bladeLine_35 rfl ?_
                  refine z_oldK 1 dX6_bladeLine_36 (Or.inl (by decide)) (HA 1 (by decide)).1 (by decide) (by decide) (by decide) (by rw [(HA 1 (by decide)).2]; decide) ?_
                  refine e_callV [.int _, .int _, .int _] dX6_bladeLine_37 tm_6_156 rfl (Nat.le_of_ble_eq_true rfl) (congrArg Prod.fst (rd_s0 k42)) (Nat.le_of_ble_eq_true rfl) (Nat.le_refl _) (Nat.le_refl _) rfl (zp_X6_takeNumber k42 H43 K47p K47f 3 ⟨by omega, by omega⟩ 0 ⟨by omega, by omega⟩ 1 ⟨by omega, by omega⟩ (by omega) (fun v49 p50 h51 f52 p53 => ?_))
                  have k54 := lk_q (frm_s f52) k42
                  have H55 := rdT_c f52 (fun a k q => by omega) H43
                  have H56 := rwF_c f52 (fun a k q1 q2 => by omega) H44
                  have FR57 := frm_t FR45 (frm_m (S' := (fun a k => (a = y ∧ (k = 3 ∨ k = 4 ∨ (8 ≤ k ∧ k ≤ 11))) ∨ (y + 1 ≤ a ∧ a < y + 25) ∨ a = y + 26)) f52 (fun a k q => by omega))
                  skip
                  refine z_if_ne 45 dX6_bladeLine_40 rfl ⟨by omega, by omega⟩ (fun c58 => ?_) (fun c58 => ?_)
                  · skip
                    obtain ⟨K59, K59p, K59f, K59n⟩ := tn_1 p53 (by omega)
                    refine z_iinc (L' := [_, _, _]) dX6_bladeLine_45 rfl rfl ?_
                    refine e_goto 20 dX6_bladeLine_48 rfl ?_
                    refine e_iload_n dX6_bladeLine_20 rfl ?_
                    refine z_iconst (4) dX6_bladeLine_21 rfl ?_
                    refine z_icmp_ge 51 dX6_bladeLine_22 rfl ⟨by omega, by omega⟩ ⟨by omega, by omega⟩ (fun c60 => ?_) (fun c60 => ?_)
                    · skip
                      refine e_aload_n dX6_bladeLine_51 rfl ?_
                      refine e_aload_n dX6_bladeLine_52 rfl ?_
                      refine e_get (.ref (y + 26)) dX6_bladeLine_53 tf_6_43 (congrArg Prod.fst (rd_s0 k54)) (congrArg va_rf (rd_r0_6 k54)) ?_
                      refine z_iconst (0) dX6_bladeLine_56 rfl ?_
                      refine z_ild (tkV T L (tkE T L p)) dX6_bladeLine_57 (rd_s26 k54) (by decide) (by omega) (by omega) ((((frm_r f52 (by omega)).trans ((frm_r f40 (by omega)).trans (frm_r f28 (by omega))))).trans K23n) ?_
                      have y61 := tv_b K23
                      refine e_aload_n dX6_bladeLine_58 rfl ?_
                      refine e_get (.ref (y + 26)) dX6_bladeLine_59 tf_6_43 (congrArg Prod.fst (rd_s0 k54)) (congrArg va_rf (rd_r0_6 k54)) ?_
                      refine z_iconst (1) dX6_bladeLine_62 rfl ?_
                      refine z_ild (tkV T L (tkE T L (tkE T L p))) dX6_bladeLine_63 (rd_s26 k54) (by decide) (by omega) (by omega) ((((frm_r f52 (by omega)).trans (frm_r f40 (by omega)))).trans K35n) ?_
                      have y62 := tv_b K35
                      refine e_aload_n dX6_bladeLine_64 rfl ?_
                      refine e_get (.ref (y + 26)) dX6_bladeLine_65 tf_6_43 (congrArg Prod.fst (rd_s0 k54)) (congrArg va_rf (rd_r0_6 k54)) ?_
                      refine z_iconst (2) dX6_bladeLine_68 rfl ?_
                      refine z_ild (tkV T L (tkE T L (tkE T L (tkE T L p)))) dX6_bladeLine_69 (rd_s26 k54) (by decide) (by omega) (by omega) (((frm_r f52 (by omega))).trans K47n) ?_
                      have y63 := tv_b K47
                      refine e_aload_n dX6_bladeLine_70 rfl ?_
                      refine e_get (.ref (y + 26)) dX6_bladeLine_71 tf_6_43 (congrArg Prod.fst (rd_s0 k54)) (congrArg va_rf (rd_r0_6 k54)) ?_
                      refine z_iconst (3) dX6_bladeLine_74 rfl ?_
                      refine z_ild (tkV T L (tkE T L (tkE T L (tkE T L (tkE T L p))))) dX6_bladeLine_75 (rd_s26 k54) (by decide) (by omega) (by omega) K59n ?_
                      have y64 := tv_b K59
                      have SZ : rI h51 (y + 2) 5 = nd G := H56.1.1
                      refine e_callV [.int _, .int _, .int _, .int _] dX6_bladeLine_76 tm_6_160 rfl (Nat.le_of_ble_eq_true rfl) (congrArg Prod.fst (rd_s2 k54)) (Nat.le_of_ble_eq_true rfl) (Nat.le_refl _) (Nat.le_refl _) rfl (zp_X0_add_g (rd_bl2 k54) (nd G) (tkV T L (tkE T L p)) ⟨by omega, by omega⟩ (tkV T L (tkE T L (tkE T L p))) ⟨by omega, by omega⟩ (tkV T L (tkE T L (tkE T L (tkE T L p)))) ⟨by omega, by omega⟩ (tkV T L (tkE T L (tkE T L (tkE T L (tkE T L p))))) ⟨by omega, by omega⟩ ⟨SZ, by omega, by omega⟩ (fun  h65 f66 p67 => ?_))
                      have k68 := lk_q (frm_s f66) k54
                      have H69 := rdT_c f66 (fun a k q => by omega) H55
                      have H70 := rdP_c f66 (fun a k q => by omega) K59p
                      have H71 := rdF_c f66 (fun a k q => by omega) K59f
                      have FR72 := frm_t FR57 (frm_m (S' := (fun a k => (a = y ∧ (k = 3 ∨ k = 4 ∨ (8 ≤ k ∧ k ≤ 11))) ∨ (y + 1 ≤ a ∧ a < y + 25) ∨ a = y + 26)) f66 (fun a k q => by omega))
                      have G1 : rwF h65 (y + 1) (adG G 0 (tkV T L (tkE T L p)) (tkV T L (tkE T L (tkE T L p))) (tkV T L (tkE T L (tkE T L (tkE T L p)))) (tkV T L (tkE T L (tkE T L (tkE T L (tkE T L p)))))) := rwF_a0 pw H56 f66 p67
                      refine e_aload_n dX6_bladeLine_79 rfl ?_
                      refine e_callV [] dX6_bladeLine_80 tm_6_164 rfl (Nat.le_of_ble_eq_true rfl) (congrArg Prod.fst (rd_s0 k68)) (Nat.le_of_ble_eq_true rfl) (Nat.le_refl _) (Nat.le_refl _) rfl (zp_X6_takeStop k68 H69 H70 H71 (fun v73 p74 h75 f76 p77 => ?_))
                      have k78 := lk_q (frm_s f76) k68
                      have H79 := rdT_c f76 (fun a k q => by omega) H69
                      have H80 := rwF_c f76 (fun a k q1 q2 => by omega) G1
                      have FR81 := frm_t FR72 (frm_m (S' := (fun a k => (a = y ∧ (k = 3 ∨ k = 4 ∨ (8 ≤ k ∧ k ≤ 11))) ∨ (y + 1 ≤ a ∧ a < y + 25) ∨ a = y + 26)) f76 (fun a k q => by omega))
                      skip
                      refine z_bret dX6_bladeLine_83 rfl (by omega) ⟨rfl, ?_⟩
                      rcases p77 with ⟨w, k5, P5, F5⟩ | ⟨w, k5, F5⟩
                      · exact kq _ (Or.inr w) _ FR81 (Or.inl ⟨w, ⟨K23, K35, K47, K59, k5⟩, P5, F5, H80⟩)
                      · exact kq _ (Or.inl w) _ FR81 (Or.inr ⟨w, fun z => k5 z.2.2.2.2, by rw [xp_y K23, xp_y K35, xp_y K47, xp_y K59]; exact F5⟩)
                    · exfalso; omega
                  · skip
                    obtain ⟨k0, f0⟩ := tn_0 p53 (by omega)
                    refine z_iconst (0) dX6_bladeLine_43 rfl ?_
                    refine z_bret dX6_bladeLine_44 rfl (Or.inl rfl) ⟨rfl, ?_⟩
                    exact kq 0 (Or.inl rfl) _ FR57 (Or.inr ⟨rfl, fun z => k0 z.2.2.2.1, by rw [xp_y K23, xp_y K35, xp_y K47, xp_n k0]; exact f0⟩)
              · skip
                obtain ⟨k0, f0⟩ := tn_0 p41 (by omega)
                refine z_iconst (0) dX6_bladeLine_43 rfl ?_
                refine z_bret dX6_bladeLine_44 rfl (Or.inl rfl) ⟨rfl, ?_⟩
                exact kq 0 (Or.inl rfl) _ FR45 (Or.inr ⟨rfl, fun z => k0 z.2.2.1, by rw [xp_y K23, xp_y K35, xp_n k0]; exact f0⟩)
          · skip
            obtain ⟨k0, f0⟩ := tn_0 p29 (by omega)
            refine z_iconst (0) dX6_bladeLine_43 rfl ?_
            refine z_bret dX6_bladeLine_44 rfl (Or.inl rfl) ⟨rfl, ?_⟩
            exact kq 0 (Or.inl rfl) _ FR33 (Or.inr ⟨rfl, fun z => k0 z.2.1, by rw [xp_y K23, xp_n k0]; exact f0⟩)
      · skip
        obtain ⟨k0, f0⟩ := tn_0 p17 (by omega)
        refine z_iconst (0) dX6_bladeLine_43 rfl ?_
        refine z_bret dX6_bladeLine_44 rfl (Or.inl rfl) ⟨rfl, ?_⟩
        exact kq 0 (Or.inl rfl) _ FR21 (Or.inr ⟨rfl, fun z => k0 z.1, by rw [xp_n k0]; exact f0⟩)
  · skip
    refine z_iconst (1) dX6_bladeLine_10 rfl ?_
    refine e_goto 15 dX6_bladeLine_11 rfl ?_
    refine e_callV [.int _] dX6_bladeLine_15 tm_6_146 rfl (Nat.le_of_ble_eq_true rfl) (congrArg Prod.fst (rd_s0 hk)) (Nat.le_of_ble_eq_true rfl) (Nat.le_refl _) (Nat.le_refl _) rfl (zp_X6_beginLine hk HT HP HF True (fun  h82 f83 p84 p85 p86 => ?_))
    have k87 := lk_q (frm_s f83) hk
    have H88 := rdT_c f83 (fun a k q => by omega) HT
    have H89 := rwF_c f83 (fun a k q1 q2 => by omega) HG
    have FR90 := frm_t FR0 (frm_m (S' := (fun a k => (a = y ∧ (k = 3 ∨ k = 4 ∨ (8 ≤ k ∧ k ≤ 11))) ∨ (y + 1 ≤ a ∧ a < y + 25) ∨ a = y + 26)) f83 (fun a k q => by omega))
    have F91 : rdF h82 y (ntF (6 ≤ nd G) 3 f) (ntQ (6 ≤ nd G) (tkS T L p) f q) := by rw [(nt_iff (c := 6 ≤ nd G) (c' := True) (k := 3) (s := tkS T L p) (f := f) (q := q) ⟨fun _ => trivial, fun _ => by omega⟩).1, (nt_iff (c := 6 ≤ nd G) (c' := True) (k := 3) (s := tkS T L p) (f := f) (q := q) ⟨fun _ => trivial, fun _ => by omega⟩).2]; exact p85
    refine z_iconst (0) dX6_bladeLine_18 rfl ?_
    refine e_istore_n (L' := [_, _, _]) dX6_bladeLine_19 (Nat.le_of_ble_eq_true rfl) rfl ?_
    refine e_iload_n dX6_bladeLine_20 rfl ?_
    refine z_iconst (4) dX6_bladeLine_21 rfl ?_
    refine z_icmp_ge 51 dX6_bladeLine_22 rfl ⟨by omega, by omega⟩ ⟨by omega, by omega⟩ (fun c92 => ?_) (fun c92 => ?_)
    · exfalso; omega
    · skip
      refine e_aload_n dX6_bladeLine_25 rfl ?_
      refine e_iload_n dX6_bladeLine_26 rfl ?_
      refine e_gets dX6_bladeLine_27 ts_6_150 ?_
      refine e_iload_n dX6_bladeLine_30 rfl ?_
      refine z_oldK 1 dX6_bladeLine_31 (Or.inl (by decide)) (HA 0 (by decide)).1 (by decide) (by decide) (by decide) (by rw [(HA 0 (by decide)).2]; decide) ?_
      refine e_gets dX6_bladeLine_32 ts_6_153 ?_
      refine e_iload_n dX6_bladeLine_35 rfl ?_
      refine z_oldK 20 dX6_bladeLine_36 (Or.inl (by decide)) (HA 1 (by decide)).1 (by decide) (by decide) (by decide) (by rw [(HA 1 (by decide)).2]; decide) ?_
      refine e_callV [.int _, .int _, .int _] dX6_bladeLine_37 tm_6_156 rfl (Nat.le_of_ble_eq_true rfl) (congrArg Prod.fst (rd_s0 k87)) (Nat.le_of_ble_eq_true rfl) (Nat.le_refl _) (Nat.le_refl _) rfl (zp_X6_takeNumber k87 H88 p84 F91 0 ⟨by omega, by omega⟩ 1 ⟨by omega, by omega⟩ 20 ⟨by omega, by omega⟩ (by omega) (fun v93 p94 h95 f96 p97 => ?_))
      have k98 := lk_q (frm_s f96) k87
      have H99 := rdT_c f96 (fun a k q => by omega) H88
      have H100 := rwF_c f96 (fun a k q1 q2 => by omega) H89
      have FR101 := frm_t FR90 (frm_m (S' := (fun a k => (a = y ∧ (k = 3 ∨ k = 4 ∨ (8 ≤ k ∧ k ≤ 11))) ∨ (y + 1 ≤ a ∧ a < y + 25) ∨ a = y + 26)) f96 (fun a k q => by omega))
      skip
      refine z_if_ne 45 dX6_bladeLine_40 rfl ⟨by omega, by omega⟩ (fun c102 => ?_) (fun c102 => ?_)
      · skip
        obtain ⟨K103, K103p, K103f, K103n⟩ := tn_1 p97 (by omega)
        refine z_iinc (L' := [_, _, _]) dX6_bladeLine_45 rfl rfl ?_
        refine e_goto 20 dX6_bladeLine_48 rfl ?_
        refine e_iload_n dX6_bladeLine_20 rfl ?_
        refine z_iconst (4) dX6_bladeLine_21 rfl ?_
        refine z_icmp_ge 51 dX6_bladeLine_22 rfl ⟨by omega, by omega⟩ ⟨by omega, by omega⟩ (fun c104 => ?_) (fun c104 => ?_)
        · exfalso; omega
        · skip
          refine e_aload_n dX6_bladeLine_25 rfl ?_
          refine e_iload_n dX6_bladeLine_26 rfl ?_
          refine e_gets dX6_bladeLine_27 ts_6_150 ?_
          refine e_iload_n dX6_bladeLine_30 rfl ?_
          refine z_oldK 0 dX6_bladeLine_31 (Or.inl (by decide)) (HA 0 (by decide)).1 (by decide) (by decide) (by decide) (by rw [(HA 0 (by decide)).2]; decide) ?_
          refine e_gets dX6_bladeLine_32 ts_6_153 ?_
          refine e_iload_n dX6_bladeLine_35 rfl ?_
          refine z_oldK 3 dX6_bladeLine_36 (Or.inl (by decide)) (HA 1 (by decide)).1 (by decide) (by decide) (by decide) (by rw [(HA 1 (by decide)).2]; decide) ?_
          refine e_callV [.int _, .int _, .int _] dX6_bladeLine_37 tm_6_156 rfl (Nat.le_of_ble_eq_true rfl) (congrArg Prod.fst (rd_s0 k98)) (Nat.le_of_ble_eq_true rfl) (Nat.le_refl _) (Nat.le_refl _) rfl (zp_X6_takeNumber k98 H99 K103p K103f 1 ⟨by omega, by omega⟩ 0 ⟨by omega, by omega⟩ 3 ⟨by omega, by omega⟩ (by omega) (fun v105 p106 h107 f108 p109 => ?_))
          have k110 := lk_q (frm_s f108) k98
          have H111 := rdT_c f108 (fun a k q => by omega) H99
          have H112 := rwF_c f108 (fun a k q1 q2 => by omega) H100
          have FR113 := frm_t FR101 (frm_m (S' := (fun a k => (a = y ∧ (k = 3 ∨ k = 4 ∨ (8 ≤ k ∧ k ≤ 11))) ∨ (y + 1 ≤ a ∧ a < y + 25) ∨ a = y + 26)) f108 (fun a k q => by omega))
          skip
          refine z_if_ne 45 dX6_bladeLine_40 rfl ⟨by omega, by omega⟩ (fun c114 => ?_) (fun c114 => ?_)
          · skip
            obtain ⟨K115, K115p, K115f, K115n⟩ := tn_1 p109 (by omega)
            refine z_iinc (L' := [_, _, _]) dX6_bladeLine_45 rfl rfl ?_
            refine e_goto 20 dX6_bladeLine_48 rfl ?_
            refine e_iload_n dX6_bladeLine_20 rfl ?_
            refine z_iconst (4) dX6_bladeLine_21 rfl ?_
            refine z_icmp_ge 51 dX6_bladeLine_22 rfl ⟨by omega, by omega⟩ ⟨by omega, by omega⟩ (fun c116 => ?_) (fun c116 => ?_)
            · exfalso; omega
            · skip
              refine e_aload_n dX6_bladeLine_25 rfl ?_
              refine e_iload_n dX6_bladeLine_26 rfl ?_
              refine e_gets dX6_bladeLine_27 ts_6_150 ?_
              refine e_iload_n dX6_bladeLine_30 rfl ?_
              refine z_oldK 0 dX6_bladeLine_31 (Or.inl (by decide)) (HA 0 (by decide)).1 (by decide) (by decide) (by decide) (by rw [(HA 0 (by decide)).2]; decide) ?_
              refine e_gets dX6_bladeLine_32 ts_6_153 ?_
              refine e_iload_n dX6_bladeLine_35 rfl ?_
              refine z_oldK 20 dX6_bladeLine_36 (Or.inl (by decide)) (HA 1 (by decide)).1 (by decide) (by decide) (by decide) (by rw [(HA 1 (by decide)).2]; decide) ?_
              refine e_callV [.int _, .int _, .int _] dX6_bladeLine_37 tm_6_156 rfl (Nat.le_of_ble_eq_true rfl) (congrArg Prod.fst (rd_s0 k110)) (Nat.le_of_ble_eq_true rfl) (Nat.le_refl _) (Nat.le_refl _) rfl (zp_X6_takeNumber k110 H111 K115p K115f 2 ⟨by omega, by omega⟩ 0 ⟨by omega, by omega⟩ 20 ⟨by omega, by omega⟩ (by omega) (fun v117 p118 h119 f120 p121 => ?_))
              have k122 := lk_q (frm_s f120) k110
              have H123 := rdT_c f120 (fun a k q => by omega) H111
              have H124 := rwF_c f120 (fun a k q1 q2 => by omega) H112
              have FR125 := frm_t FR113 (frm_m (S' := (fun a k => (a = y ∧ (k = 3 ∨ k = 4 ∨ (8 ≤ k ∧ k ≤ 11))) ∨ (y + 1 ≤ a ∧ a < y + 25) ∨ a = y + 26)) f120 (fun a k q => by omega))
              skip
              refine z_if_ne 45 dX6_bladeLine_40 rfl ⟨by omega, by omega⟩ (fun c126 => ?_) (fun c126 => ?_)
              · skip
                obtain ⟨K127, K127p, K127f, K127n⟩ := tn_1 p121 (by omega)
                refine z_iinc (L' := [_, _, _]) dX6_bladeLine_45 rfl rfl ?_
                refine e_goto 20 dX6_bladeLine_48 rfl ?_
                refine e_iload_n dX6_bladeLine_20 rfl ?_
                refine z_iconst (4) dX6_bladeLine_21 rfl ?_
                refine z_icmp_ge 51 dX6_bladeLine_22 rfl ⟨by omega, by omega⟩ ⟨by omega, by omega⟩ (fun c128 => ?_) (fun c128 => ?_)
                · exfalso; omega
                · skip
                  refine e_aload_n dX6_bladeLine_25 rfl ?_
                  refine e_iload_n dX6_bladeLine_26 rfl ?_
                  refine e_gets dX6_bladeLine_27 ts_6_150 ?_
                  refine e_iload_n dX6_bladeLine_30 rfl ?_
                  refine z_oldK 0 dX6_bladeLine_31 (Or.inl (by decide)) (HA 0 (by decide)).1 (by decide) (by decide) (by decide) (by rw [(HA 0 (by decide)).2]; decide) ?_
                  refine e_gets dX6_bladeLine_32 ts_6_153 ?_
                  refine e_iload_n dX6_bladeLine_35 rfl ?_
                  refine z_oldK 1 dX6_bladeLine_36 (Or.inl (by decide)) (HA 1 (by decide)).1 (by decide) (by decide) (by decide) (by rw [(HA 1 (by decide)).2]; decide) ?_
                  refine e_callV [.int _, .int _, .int _] dX6_bladeLine_37 tm_6_156 rfl (Nat.le_of_ble_eq_true rfl) (congrArg Prod.fst (rd_s0 k122)) (Nat.le_of_ble_eq_true rfl) (Nat.le_refl _) (Nat.le_refl _) rfl (zp_X6_takeNumber k122 H123 K127p K127f 3 ⟨by omega, by omega⟩ 0 ⟨by omega, by omega⟩ 1 ⟨by omega, by omega⟩ (by omega) (fun v129 p130 h131 f132 p133 => ?_))
                  have k134 := lk_q (frm_s f132) k122
                  have H135 := rdT_c f132 (fun a k q => by omega) H123
                  have H136 := rwF_c f132 (fun a k q1 q2 => by omega) H124
                  have FR137 := frm_t FR125 (frm_m (S' := (fun a k => (a = y ∧ (k = 3 ∨ k = 4 ∨ (8 ≤ k ∧ k ≤ 11))) ∨ (y + 1 ≤ a ∧ a < y + 25) ∨ a = y + 26)) f132 (fun a k q => by omega))
                  skip
                  refine z_if_ne 45 dX6_bladeLine_40 rfl ⟨by omega, by omega⟩ (fun c138 => ?_) (fun c138 => ?_)
                  · skip
                    obtain ⟨K139, K139p, K139f, K139n⟩ := tn_1 p133 (by omega)
                    refine z_iinc (L' := [_, _, _]) dX6_bladeLine_45 rfl rfl ?_
                    refine e_goto 20 dX6_bladeLine_48 rfl ?_
                    refine e_iload_n dX6_bladeLine_20 rfl ?_
                    refine z_iconst (4) dX6_bladeLine_21 rfl ?_
                    refine z_icmp_ge 51 dX6_bladeLine_22 rfl ⟨by omega, by omega⟩ ⟨by omega, by omega⟩ (fun c140 => ?_) (fun c140 => ?_)
                    · skip
                      refine e_aload_n dX6_bladeLine_51 rfl ?_
                      refine e_aload_n dX6_bladeLine_52 rfl ?_
                      refine e_get (.ref (y + 26)) dX6_bladeLine_53 tf_6_43 (congrArg Prod.fst (rd_s0 k134)) (congrArg va_rf (rd_r0_6 k134)) ?_
                      refine z_iconst (0) dX6_bladeLine_56 rfl ?_
                      refine z_ild (tkV T L (tkE T L p)) dX6_bladeLine_57 (rd_s26 k134) (by decide) (by omega) (by omega) ((((frm_r f132 (by omega)).trans ((frm_r f120 (by omega)).trans (frm_r f108 (by omega))))).trans K103n) ?_
                      have y141 := tv_b K103
                      refine e_aload_n dX6_bladeLine_58 rfl ?_
                      refine e_get (.ref (y + 26)) dX6_bladeLine_59 tf_6_43 (congrArg Prod.fst (rd_s0 k134)) (congrArg va_rf (rd_r0_6 k134)) ?_
                      refine z_iconst (1) dX6_bladeLine_62 rfl ?_
                      refine z_ild (tkV T L (tkE T L (tkE T L p))) dX6_bladeLine_63 (rd_s26 k134) (by decide) (by omega) (by omega) ((((frm_r f132 (by omega)).trans (frm_r f120 (by omega)))).trans K115n) ?_
                      have y142 := tv_b K115
                      refine e_aload_n dX6_bladeLine_64 rfl ?_
                      refine e_get (.ref (y + 26)) dX6_bladeLine_65 tf_6_43 (congrArg Prod.fst (rd_s0 k134)) (congrArg va_rf (rd_r0_6 k134)) ?_
                      refine z_iconst (2) dX6_bladeLine_68 rfl ?_
                      refine z_ild (tkV T L (tkE T L (tkE T L (tkE T L p)))) dX6_bladeLine_69 (rd_s26 k134) (by decide) (by omega) (by omega) (((frm_r f132 (by omega))).trans K127n) ?_
                      have y143 := tv_b K127
                      refine e_aload_n dX6_bladeLine_70 rfl ?_
                      refine e_get (.ref (y + 26)) dX6_bladeLine_71 tf_6_43 (congrArg Prod.fst (rd_s0 k134)) (congrArg va_rf (rd_r0_6 k134)) ?_
                      refine z_iconst (3) dX6_bladeLine_74 rfl ?_
                      refine z_ild (tkV T L (tkE T L (tkE T L (tkE T L (tkE T L p))))) dX6_bladeLine_75 (rd_s26 k134) (by decide) (by omega) (by omega) K139n ?_
                      have y144 := tv_b K139
                      have SZ : rI h131 (y + 2) 5 = nd G := H136.1.1
                      refine e_callV [.int _, .int _, .int _, .int _] dX6_bladeLine_76 tm_6_160 rfl (Nat.le_of_ble_eq_true rfl) (congrArg Prod.fst (rd_s2 k134)) (Nat.le_of_ble_eq_true rfl) (Nat.le_refl _) (Nat.le_refl _) rfl (zp_X0_add_g (rd_bl2 k134) (nd G) (tkV T L (tkE T L p)) ⟨by omega, by omega⟩ (tkV T L (tkE T L (tkE T L p))) ⟨by omega, by omega⟩ (tkV T L (tkE T L (tkE T L (tkE T L p)))) ⟨by omega, by omega⟩ (tkV T L (tkE T L (tkE T L (tkE T L (tkE T L p))))) ⟨by omega, by omega⟩ ⟨SZ, by omega, by omega⟩ (fun  h145 f146 p147 => ?_))
                      have k148 := lk_q (frm_s f146) k134
                      have H149 := rdT_c f146 (fun a k q => by omega) H135
                      have H150 := rdP_c f146 (fun a k q => by omega) K139p
                      have H151 := rdF_c f146 (fun a k q => by omega) K139f
                      have FR152 := frm_t FR137 (frm_m (S' := (fun a k => (a = y ∧ (k = 3 ∨ k = 4 ∨ (8 ≤ k ∧ k ≤ 11))) ∨ (y + 1 ≤ a ∧ a < y + 25) ∨ a = y + 26)) f146 (fun a k q => by omega))
                      have G1 : rwF h145 (y + 1) (adG G 0 (tkV T L (tkE T L p)) (tkV T L (tkE T L (tkE T L p))) (tkV T L (tkE T L (tkE T L (tkE T L p)))) (tkV T L (tkE T L (tkE T L (tkE T L (tkE T L p)))))) := rwF_a0 pw H136 f146 p147
                      refine e_aload_n dX6_bladeLine_79 rfl ?_
                      refine e_callV [] dX6_bladeLine_80 tm_6_164 rfl (Nat.le_of_ble_eq_true rfl) (congrArg Prod.fst (rd_s0 k148)) (Nat.le_of_ble_eq_true rfl) (Nat.le_refl _) (Nat.le_refl _) rfl (zp_X6_takeStop k148 H149 H150 H151 (fun v153 p154 h155 f156 p157 => ?_))
                      have k158 := lk_q (frm_s f156) k148
                      have H159 := rdT_c f156 (fun a k q => by omega) H149
                      have H160 := rwF_c f156 (fun a k q1 q2 => by omega) G1
                      have FR161 := frm_t FR152 (frm_m (S' := (fun a k => (a = y ∧ (k = 3 ∨ k = 4 ∨ (8 ≤ k ∧ k ≤ 11))) ∨ (y + 1 ≤ a ∧ a < y + 25) ∨ a = y + 26)) f156 (fun a k q => by omega))
                      skip
                      refine z_bret dX6_bladeLine_83 rfl (by omega) ⟨rfl, ?_⟩
                      rcases p157 with ⟨w, k5, P5, F5⟩ | ⟨w, k5, F5⟩
                      · exact kq _ (Or.inr w) _ FR161 (Or.inl ⟨w, ⟨K103, K115, K127, K139, k5⟩, P5, F5, H160⟩)
                      · exact kq _ (Or.inl w) _ FR161 (Or.inr ⟨w, fun z => k5 z.2.2.2.2, by rw [xp_y K103, xp_y K115, xp_y K127, xp_y K139]; exact F5⟩)
                    · exfalso; omega
                  · skip
                    obtain ⟨k0, f0⟩ := tn_0 p133 (by omega)
                    refine z_iconst (0) dX6_bladeLine_43 rfl ?_
                    refine z_bret dX6_bladeLine_44 rfl (Or.inl rfl) ⟨rfl, ?_⟩
                    exact kq 0 (Or.inl rfl) _ FR137 (Or.inr ⟨rfl, fun z => k0 z.2.2.2.1, by rw [xp_y K103, xp_y K115, xp_y K127, xp_n k0]; exact f0⟩)
              · skip
                obtain ⟨k0, f0⟩ := tn_0 p121 (by omega)
                refine z_iconst (0) dX6_bladeLine_43 rfl ?_
                refine z_bret dX6_bladeLine_44 rfl (Or.inl rfl) ⟨rfl, ?_⟩
                exact kq 0 (Or.inl rfl) _ FR125 (Or.inr ⟨rfl, fun z => k0 z.2.2.1, by rw [xp_y K103, xp_y K115, xp_n k0]; exact f0⟩)
          · skip
            obtain ⟨k0, f0⟩ := tn_0 p109 (by omega)
            refine z_iconst (0) dX6_bladeLine_43 rfl ?_
            refine z_bret dX6_bladeLine_44 rfl (Or.inl rfl) ⟨rfl, ?_⟩
            exact kq 0 (Or.inl rfl) _ FR113 (Or.inr ⟨rfl, fun z => k0 z.2.1, by rw [xp_y K103, xp_n k0]; exact f0⟩)
      · skip
        obtain ⟨k0, f0⟩ := tn_0 p97 (by omega)
        refine z_iconst (0) dX6_bladeLine_43 rfl ?_
        refine z_bret dX6_bladeLine_44 rfl (Or.inl rfl) ⟨rfl, ?_⟩
        exact kq 0 (Or.inl rfl) _ FR101 (Or.inr ⟨rfl, fun z => k0 z.1, by rw [xp_n k0]; exact f0⟩)
set_option maxHeartbeats 4000000 in
theorem zp_X6_bladeLine_1 {ad : mA} {dd : Nat} {h : mH} {Q : mQ} {y : Nat} {T G : Int → Int} {L p f q : Int} (hk : rdk h y) (HT : rdT h y T L) (HP : rdP h y T L p) (HF : rdF h y f q) (HG : rwF h (y + 1) G) (HA : adK ad)  (pw : wfR G) (kq : ∀ v : Int, (v = 0 ∨ v = 1) → ∀ h1, frm (fun a k => (a = y ∧ (k = 3 ∨ k = 4 ∨ (8 ≤ k ∧ k ≤ 11))) ∨ (y + 1 ≤ a ∧ a < y + 25) ∨ a = y + 26) h h1 → (lnO h1 y T L [(1, 20), (0, 3), (0, 20), (0, 1)] (tkE T L p) (ntF (6 ≤ nu G) 3 f) (ntQ (6 ≤ nu G) (tkS T L p) f q) v (rwF h1 (y + 1) (adG G 1 (tkV T L (tkE T L p)) (tkV T L (tkE T L (tkE T L p))) (tkV T L (tkE T L (tkE T L (tkE T L p)))) (tkV T L (tkE T L (tkE T L (tkE T L (tkE T L p)))))))) → Q (some (.int (zI v))) h1) : mCal TB0 ad (dd + 5) M_X6_bladeLine [.ref y, .ref (y + 8)] h 0 0 Q := by
  refine ⟨Nat.le_of_ble_eq_true rfl, ?_⟩
  show mEv TB0 ad M_X6_bladeLine (dd + 5) (0, 0) (mCal TB0 ad (dd + 4)) (fun v h' z => z.1 = 0 ∧ Q v h') 0 [some (.ref y), some (.ref (y + 8)), none] [] h (0, 0)
  have FR0 : frm (fun a k => (a = y ∧ (k = 3 ∨ k = 4 ∨ (8 ≤ k ∧ k ≤ 11))) ∨ (y + 1 ≤ a ∧ a < y + 25) ∨ a = y + 26) h h := frm_0 h
  have wn1 := pw.1
  have wn2 := pw.2.1
  have wn3 := pw.2.2.1
  have w1 := HT.1
  have tb := tk_b (T := T) HP.1.1 HP.1.2
  have p0 := HP.1
  refine e_aload_n dX6_bladeLine_0 rfl ?_
  refine e_aload_n dX6_bladeLine_1 rfl ?_
  refine z_get (nu G) dX6_bladeLine_2 tf_6_86 (congrArg Prod.fst (rd_s8 hk)) (Or.inl rfl) HG.1.2.1 ?_
  refine z_bipush (6) dX6_bladeLine_5 rfl ?_
  refine z_icmp_lt 14 dX6_bladeLine_7 rfl ⟨by omega, by omega⟩ ⟨by omega, by omega⟩ (fun c1 => ?_) (fun c1 => ?_)
  · skip
    refine z_iconst (0) dX6_bladeLine_14 rfl ?_
    refine e_callV [.int _] dX6_bladeLine_15 tm_6_146 rfl (Nat.le_of_ble_eq_true rfl) (congrArg Prod.fst (rd_s0 hk)) (Nat.le_of_ble_eq_true rfl) (Nat.le_refl _) (Nat.le_refl _) rfl (zp_X6_beginLine hk HT HP HF False (fun  h2 f3 p4 p5 p6 => ?_))
    have k7 := lk_q (frm_s f3) hk
    have H8 := rdT_c f3 (fun a k q => by omega) HT
    have H9 := rwF_c f3 (fun a k q1 q2 => by omega) HG
    have FR10 := frm_t FR0 (frm_m (S' := (fun a k => (a = y ∧ (k = 3 ∨ k = 4 ∨ (8 ≤ k ∧ k ≤ 11))) ∨ (y + 1 ≤ a ∧ a < y + 25) ∨ a = y + 26)) f3 (fun a k q => by omega))
    have F11 : rdF h2 y (ntF (6 ≤ nu G) 3 f) (ntQ (6 ≤ nu G) (tkS T L p) f q) := by rw [(nt_iff (c := 6 ≤ nu G) (c' := False) (k := 3) (s := tkS T L p) (f := f) (q := q) ⟨fun z => absurd z (by omega), fun z => z.elim⟩).1, (nt_iff (c := 6 ≤ nu G) (c' := False) (k := 3) (s := tkS T L p) (f := f) (q := q) ⟨fun z => absurd z (by omega), fun z => z.elim⟩).2]; exact p5
    refine z_iconst (0) dX6_bladeLine_18 rfl ?_
    refine e_istore_n (L' := [_, _, _]) dX6_bladeLine_19 (Nat.le_of_ble_eq_true rfl) rfl ?_
    refine e_iload_n dX6_bladeLine_20 rfl ?_
    refine z_iconst (4) dX6_bladeLine_21 rfl ?_
    refine z_icmp_ge 51 dX6_bladeLine_22 rfl ⟨by omega, by omega⟩ ⟨by omega, by omega⟩ (fun c12 => ?_) (fun c12 => ?_)
    · exfalso; omega
    · skip
      refine e_aload_n dX6_bladeLine_25 rfl ?_
      refine e_iload_n dX6_bladeLine_26 rfl ?_
      refine e_gets dX6_bladeLine_27 ts_6_150 ?_
      refine e_iload_n dX6_bladeLine_30 rfl ?_
      refine z_oldK 1 dX6_bladeLine_31 (Or.inl (by decide)) (HA 0 (by decide)).1 (by decide) (by decide) (by decide) (by rw [(HA 0 (by decide)).2]; decide) ?_
      refine e_gets dX6_bladeLine_32 ts_6_153 ?_
      refine e_iload_n dX6_bladeLine_35 rfl ?_
      refine z_oldK 20 dX6_bladeLine_36 (Or.inl (by decide)) (HA 1 (by decide)).1 (by decide) (by decide) (by decide) (by rw [(HA 1 (by decide)).2]; decide) ?_
      refine e_callV [.int _, .int _, .int _] dX6_bladeLine_37 tm_6_156 rfl (Nat.le_of_ble_eq_true rfl) (congrArg Prod.fst (rd_s0 k7)) (Nat.le_of_ble_eq_true rfl) (Nat.le_refl _) (Nat.le_refl _) rfl (zp_X6_takeNumber k7 H8 p4 F11 0 ⟨by omega, by omega⟩ 1 ⟨by omega, by omega⟩ 20 ⟨by omega, by omega⟩ (by omega) (fun v13 p14 h15 f16 p17 => ?_))
      have k18 := lk_q (frm_s f16) k7
      have H19 := rdT_c f16 (fun a k q => by omega) H8
      have H20 := rwF_c f16 (fun a k q1 q2 => by omega) H9
      have FR21 := frm_t FR10 (frm_m (S' := (fun a k => (a = y ∧ (k = 3 ∨ k = 4 ∨ (8 ≤ k ∧ k ≤ 11))) ∨ (y + 1 ≤ a ∧ a < y + 25) ∨ a = y + 26)) f16 (fun a k q => by omega))
      skip
      refine z_if_ne 45 dX6_bladeLine_40 rfl ⟨by omega, by omega⟩ (fun c22 => ?_) (fun c22 => ?_)
      · skip
        obtain ⟨K23, K23p, K23f, K23n⟩ := tn_1 p17 (by omega)
        refine z_iinc (L' := [_, _, _]) dX6_bladeLine_45 rfl rfl ?_
        refine e_goto 20 dX6_bladeLine_48 rfl ?_
        refine e_iload_n dX6_bladeLine_20 rfl ?_
        refine z_iconst (4) dX6_bladeLine_21 rfl ?_
        refine z_icmp_ge 51 dX6_bladeLine_22 rfl ⟨by omega, by omega⟩ ⟨by omega, by omega⟩ (fun c24 => ?_) (fun c24 => ?_)
        · exfalso; omega
        · skip
          refine e_aload_n dX6_bladeLine_25 rfl ?_
          refine e_iload_n dX6_bladeLine_26 rfl ?_
          refine e_gets dX6_bladeLine_27 ts_6_150 ?_
          refine e_iload_n dX6_bladeLine_30 rfl ?_
          refine z_oldK 0 dX6_bladeLine_31 (Or.inl (by decide)) (HA 0 (by decide)).1 (by decide) (by decide) (by decide) (by rw [(HA 0 (by decide)).2]; decide) ?_
          refine e_gets dX6_bladeLine_32 ts_6_153 ?_
          refine e_iload_n dX6_bladeLine_35 rfl ?_
          refine z_oldK 3 dX6_bladeLine_36 (Or.inl (by decide)) (HA 1 (by decide)).1 (by decide) (by decide) (by decide) (by rw [(HA 1 (by decide)).2]; decide) ?_
          refine e_callV [.int _, .int _, .int _] dX6_bladeLine_37 tm_6_156 rfl (Nat.le_of_ble_eq_true rfl) (congrArg Prod.fst (rd_s0 k18)) (Nat.le_of_ble_eq_true rfl) (Nat.le_refl _) (Nat.le_refl _) rfl (zp_X6_takeNumber k18 H19 K23p K23f 1 ⟨by omega, by omega⟩ 0 ⟨by omega, by omega⟩ 3 ⟨by omega, by omega⟩ (by omega) (fun v25 p26 h27 f28 p29 => ?_))
          have k30 := lk_q (frm_s f28) k18
          have H31 := rdT_c f28 (fun a k q => by omega) H19
          have H32 := rwF_c f28 (fun a k q1 q2 => by omega) H20
          have FR33 := frm_t FR21 (frm_m (S' := (fun a k => (a = y ∧ (k = 3 ∨ k = 4 ∨ (8 ≤ k ∧ k ≤ 11))) ∨ (y + 1 ≤ a ∧ a < y + 25) ∨ a = y + 26)) f28 (fun a k q => by omega))
          skip
          refine z_if_ne 45 dX6_bladeLine_40 rfl ⟨by omega, by omega⟩ (fun c34 => ?_) (fun c34 => ?_)
          · skip
            obtain ⟨K35, K35p, K35f, K35n⟩ := tn_1 p29 (by omega)
            refine z_iinc (L' := [_, _, _]) dX6_bladeLine_45 rfl rfl ?_
            refine e_goto 20 dX6_bladeLine_48 rfl ?_
            refine e_iload_n dX6_bladeLine_20 rfl ?_
            refine z_iconst (4) dX6_bladeLine_21 rfl ?_
            refine z_icmp_ge 51 dX6_bladeLine_22 rfl ⟨by omega, by omega⟩ ⟨by omega, by omega⟩ (fun c36 => ?_) (fun c36 => ?_)
            · exfalso; omega
            · skip
              refine e_aload_n dX6_bladeLine_25 rfl ?_
              refine e_iload_n dX6_bladeLine_26 rfl ?_
              refine e_gets dX6_bladeLine_27 ts_6_150 ?_
              refine e_iload_n dX6_bladeLine_30 rfl ?_
              refine z_oldK 0 dX6_bladeLine_31 (Or.inl (by decide)) (HA 0 (by decide)).1 (by decide) (by decide) (by decide) (by rw [(HA 0 (by decide)).2]; decide) ?_
              refine e_gets dX6_bladeLine_32 ts_6_153 ?_
              refine e_iload_n dX6_bladeLine_35 rfl ?_
              refine z_oldK 20 dX6_bladeLine_36 (Or.inl (by decide)) (HA 1 (by decide)).1 (by decide) (by decide) (by decide) (by rw [(HA 1 (by decide)).2]; decide) ?_
              refine e_callV [.int _, .int _, .int _] dX6_bladeLine_37 tm_6_156 rfl (Nat.le_of_ble_eq_true rfl) (congrArg Prod.fst (rd_s0 k30)) (Nat.le_of_ble_eq_true rfl) (Nat.le_refl _) (Nat.le_refl _) rfl (zp_X6_takeNumber k30 H31 K35p K35f 2 ⟨by omega, by omega⟩ 0 ⟨by omega, by omega⟩ 20 ⟨by omega, by omega⟩ (by omega) (fun v37 p38 h39 f40 p41 => ?_))
              have k42 := lk_q (frm_s f40) k30
              have H43 := rdT_c f40 (fun a k q => by omega) H31
              have H44 := rwF_c f40 (fun a k q1 q2 => by omega) H32
              have FR45 := frm_t FR33 (frm_m (S' := (fun a k => (a = y ∧ (k = 3 ∨ k = 4 ∨ (8 ≤ k ∧ k ≤ 11))) ∨ (y + 1 ≤ a ∧ a < y + 25) ∨ a = y + 26)) f40 (fun a k q => by omega))
              skip
              refine z_if_ne 45 dX6_bladeLine_40 rfl ⟨by omega, by omega⟩ (fun c46 => ?_) (fun c46 => ?_)
              · skip
                obtain ⟨K47, K47p, K47f, K47n⟩ := tn_1 p41 (by omega)
                refine z_iinc (L' := [_, _, _]) dX6_bladeLine_45 rfl rfl ?_
                refine e_goto 20 dX6_bladeLine_48 rfl ?_
                refine e_iload_n dX6_bladeLine_20 rfl ?_
                refine z_iconst (4) dX6_bladeLine_21 rfl ?_
                refine z_icmp_ge 51 dX6_bladeLine_22 rfl ⟨by omega, by omega⟩ ⟨by omega, by omega⟩ (fun c48 => ?_) (fun c48 => ?_)
                · exfalso; omega
                · skip
                  refine e_aload_n dX6_bladeLine_25 rfl ?_
                  refine e_iload_n dX6_bladeLine_26 rfl ?_
                  refine e_gets dX6_bladeLine_27 ts_6_150 ?_
                  refine e_iload_n dX6_bladeLine_30 rfl ?_
                  refine z_oldK 0 dX6_bladeLine_31 (Or.inl (by decide)) (HA 0 (by decide)).1 (by decide) (by decide) (by decide) (by rw [(HA 0 (by decide)).2]; decide) ?_
                  refine e_gets dX6_bladeLine_32 ts_6_153 ?_
                  refine e_iload_n dX6_bladeLine_35 rfl ?_
                  refine z_oldK 1 dX6_bladeLine_36 (Or.inl (by decide)) (HA 1 (by decide)).1 (by decide) (by decide) (by decide) (by rw [(HA 1 (by decide)).2]; decide) ?_
                  refine e_callV [.int _, .int _, .int _] dX6_bladeLine_37 tm_6_156 rfl (Nat.le_of_ble_eq_true rfl) (congrArg Prod.fst (rd_s0 k42)) (Nat.le_of_ble_eq_true rfl) (Nat.le_refl _) (Nat.le_refl _) rfl (zp_X6_takeNumber k42 H43 K47p K47f 3 ⟨by omega, by omega⟩ 0 ⟨by omega, by omega⟩ 1 ⟨by omega, by omega⟩ (by omega) (fun v49 p50 h51 f52 p53 => ?_))
                  have k54 := lk_q (frm_s f52) k42
                  have H55 := rdT_c f52 (fun a k q => by omega) H43
                  have H56 := rwF_c f52 (fun a k q1 q2 => by omega) H44
                  have FR57 := frm_t FR45 (frm_m (S' := (fun a k => (a = y ∧ (k = 3 ∨ k = 4 ∨ (8 ≤ k ∧ k ≤ 11))) ∨ (y + 1 ≤ a ∧ a < y + 25) ∨ a = y + 26)) f52 (fun a k q => by omega))
                  skip
                  refine z_if_ne 45 dX6_bladeLine_40 rfl ⟨by omega, by omega⟩ (fun c58 => ?_) (fun c58 => ?_)
                  · skip
                    obtain ⟨K59, K59p, K59f, K59n⟩ := tn_1 p53 (by omega)
                    refine z_iinc (L' := [_, _, _]) dX6_bladeLine_45 rfl rfl ?_
                    refine e_goto 20 dX6_bladeLine_48 rfl ?_
                    refine e_iload_n dX6_bladeLine_20 rfl ?_
                    refine z_iconst (4) dX6_bladeLine_21 rfl ?_
                    refine z_icmp_ge 51 dX6_bladeLine_22 rfl ⟨by omega, by omega⟩ ⟨by omega, by omega⟩ (fun c60 => ?_) (fun c60 => ?_)
                    · skip
                      refine e_aload_n dX6_bladeLine_51 rfl ?_
                      refine e_aload_n dX6_bladeLine_52 rfl ?_
                      refine e_get (.ref (y + 26)) dX6_bladeLine_53 tf_6_43 (congrArg Prod.fst (rd_s0 k54)) (congrArg va_rf (rd_r0_6 k54)) ?_
                      refine z_iconst (0) dX6_bladeLine_56 rfl ?_
                      refine z_ild (tkV T L (tkE T L p)) dX6_bladeLine_57 (rd_s26 k54) (by decide) (by omega) (by omega) ((((frm_r f52 (by omega)).trans ((frm_r f40 (by omega)).trans (frm_r f28 (by omega))))).trans K23n) ?_
                      have y61 := tv_b K23
                      refine e_aload_n dX6_bladeLine_58 rfl ?_
                      refine e_get (.ref (y + 26)) dX6_bladeLine_59 tf_6_43 (congrArg Prod.fst (rd_s0 k54)) (congrArg va_rf (rd_r0_6 k54)) ?_
                      refine z_iconst (1) dX6_bladeLine_62 rfl ?_
                      refine z_ild (tkV T L (tkE T L (tkE T L p))) dX6_bladeLine_63 (rd_s26 k54) (by decide) (by omega) (by omega) ((((frm_r f52 (by omega)).trans (frm_r f40 (by omega)))).trans K35n) ?_
                      have y62 := tv_b K35
                      refine e_aload_n dX6_bladeLine_64 rfl ?_
                      refine e_get (.ref (y + 26)) dX6_bladeLine_65 tf_6_43 (congrArg Prod.fst (rd_s0 k54)) (congrArg va_rf (rd_r0_6 k54)) ?_
                      refine z_iconst (2) dX6_bladeLine_68 rfl ?_
                      refine z_ild (tkV T L (tkE T L (tkE T L (tkE T L p)))) dX6_bladeLine_69 (rd_s26 k54) (by decide) (by omega) (by omega) (((frm_r f52 (by omega))).trans K47n) ?_
                      have y63 := tv_b K47
                      refine e_aload_n dX6_bladeLine_70 rfl ?_
                      refine e_get (.ref (y + 26)) dX6_bladeLine_71 tf_6_43 (congrArg Prod.fst (rd_s0 k54)) (congrArg va_rf (rd_r0_6 k54)) ?_
                      refine z_iconst (3) dX6_bladeLine_74 rfl ?_
                      refine z_ild (tkV T L (tkE T L (tkE T L (tkE T L (tkE T L p))))) dX6_bladeLine_75 (rd_s26 k54) (by decide) (by omega) (by omega) K59n ?_
                      have y64 := tv_b K59
                      have SZ : rI h51 (y + 8) 5 = nu G := H56.1.2.1
                      refine e_callV [.int _, .int _, .int _, .int _] dX6_bladeLine_76 tm_6_160 rfl (Nat.le_of_ble_eq_true rfl) (congrArg Prod.fst (rd_s8 k54)) (Nat.le_of_ble_eq_true rfl) (Nat.le_refl _) (Nat.le_refl _) rfl (zp_X0_add_g (rd_bl8 k54) (nu G) (tkV T L (tkE T L p)) ⟨by omega, by omega⟩ (tkV T L (tkE T L (tkE T L p))) ⟨by omega, by omega⟩ (tkV T L (tkE T L (tkE T L (tkE T L p)))) ⟨by omega, by omega⟩ (tkV T L (tkE T L (tkE T L (tkE T L (tkE T L p))))) ⟨by omega, by omega⟩ ⟨SZ, by omega, by omega⟩ (fun  h65 f66 p67 => ?_))
                      have k68 := lk_q (frm_s f66) k54
                      have H69 := rdT_c f66 (fun a k q => by omega) H55
                      have H70 := rdP_c f66 (fun a k q => by omega) K59p
                      have H71 := rdF_c f66 (fun a k q => by omega) K59f
                      have FR72 := frm_t FR57 (frm_m (S' := (fun a k => (a = y ∧ (k = 3 ∨ k = 4 ∨ (8 ≤ k ∧ k ≤ 11))) ∨ (y + 1 ≤ a ∧ a < y + 25) ∨ a = y + 26)) f66 (fun a k q => by omega))
                      have G1 : rwF h65 (y + 1) (adG G 1 (tkV T L (tkE T L p)) (tkV T L (tkE T L (tkE T L p))) (tkV T L (tkE T L (tkE T L (tkE T L p)))) (tkV T L (tkE T L (tkE T L (tkE T L (tkE T L p)))))) := rwF_a1 pw H56 f66 p67
                      refine e_aload_n dX6_bladeLine_79 rfl ?_
                      refine e_callV [] dX6_bladeLine_80 tm_6_164 rfl (Nat.le_of_ble_eq_true rfl) (congrArg Prod.fst (rd_s0 k68)) (Nat.le_of_ble_eq_true rfl) (Nat.le_refl _) (Nat.le_refl _) rfl (zp_X6_takeStop k68 H69 H70 H71 (fun v73 p74 h75 f76 p77 => ?_))
                      have k78 := lk_q (frm_s f76) k68
                      have H79 := rdT_c f76 (fun a k q => by omega) H69
                      have H80 := rwF_c f76 (fun a k q1 q2 => by omega) G1
                      have FR81 := frm_t FR72 (frm_m (S' := (fun a k => (a = y ∧ (k = 3 ∨ k = 4 ∨ (8 ≤ k ∧ k ≤ 11))) ∨ (y + 1 ≤ a ∧ a < y + 25) ∨ a = y + 26)) f76 (fun a k q => by omega))
                      skip
                      refine z_bret dX6_bladeLine_83 rfl (by omega) ⟨rfl, ?_⟩
                      rcases p77 with ⟨w, k5, P5, F5⟩ | ⟨w, k5, F5⟩
                      · exact kq _ (Or.inr w) _ FR81 (Or.inl ⟨w, ⟨K23, K35, K47, K59, k5⟩, P5, F5, H80⟩)
                      · exact kq _ (Or.inl w) _ FR81 (Or.inr ⟨w, fun z => k5 z.2.2.2.2, by rw [xp_y K23, xp_y K35, xp_y K47, xp_y K59]; exact F5⟩)
                    · exfalso; omega
                  · skip
                    obtain ⟨k0, f0⟩ := tn_0 p53 (by omega)
                    refine z_iconst (0) dX6_bladeLine_43 rfl ?_
                    refine z_bret dX6_bladeLine_44 rfl (Or.inl rfl) ⟨rfl, ?_⟩
                    exact kq 0 (Or.inl rfl) _ FR57 (Or.inr ⟨rfl, fun z => k0 z.2.2.2.1, by rw [xp_y K23, xp_y K35, xp_y K47, xp_n k0]; exact f0⟩)
              · skip
                obtain ⟨k0, f0⟩ := tn_0 p41 (by omega)
                refine z_iconst (0) dX6_bladeLine_43 rfl ?_
                refine z_bret dX6_bladeLine_44 rfl (Or.inl rfl) ⟨rfl, ?_⟩
                exact kq 0 (Or.inl rfl) _ FR45 (Or.inr ⟨rfl, fun z => k0 z.2.2.1, by rw [xp_y K23, xp_y K35, xp_n k0]; exact f0⟩)
          · skip
            obtain ⟨k0, f0⟩ := tn_0 p29 (by omega)
            refine z_iconst (0) dX6_bladeLine_43 rfl ?_
            refine z_bret dX6_bladeLine_44 rfl (Or.inl rfl) ⟨rfl, ?_⟩
            exact kq 0 (Or.inl rfl) _ FR33 (Or.inr ⟨rfl, fun z => k0 z.2.1, by rw [xp_y K23, xp_n k0]; exact f0⟩)
      · skip
        obtain ⟨k0, f0⟩ := tn_0 p17 (by omega)
        refine z_iconst (0) dX6_bladeLine_43 rfl ?_
        refine z_bret dX6_bladeLine_44 rfl (Or.inl rfl) ⟨rfl, ?_⟩
        exact kq 0 (Or.inl rfl) _ FR21 (Or.inr ⟨rfl, fun z => k0 z.1, by rw [xp_n k0]; exact f0⟩)
  · skip
    refine z_iconst (1) dX6_bladeLine_10 rfl ?_
    refine e_goto 15 dX6_bladeLine_11 rfl ?_
    refine e_callV [.int _] dX6_bladeLine_15 tm_6_146 rfl (Nat.le_of_ble_eq_true rfl) (congrArg Prod.fst (rd_s0 hk)) (Nat.le_of_ble_eq_true rfl) (Nat.le_refl _) (Nat.le_refl _) rfl (zp_X6_beginLine hk HT HP HF True (fun  h82 f83 p84 p85 p86 => ?_))
    have k87 := lk_q (frm_s f83) hk
    have H88 := rdT_c f83 (fun a k q => by omega) HT
    have H89 := rwF_c f83 (fun a k q1 q2 => by omega) HG
    have FR90 := frm_t FR0 (frm_m (S' := (fun a k => (a = y ∧ (k = 3 ∨ k = 4 ∨ (8 ≤ k ∧ k ≤ 11))) ∨ (y + 1 ≤ a ∧ a < y + 25) ∨ a = y + 26)) f83 (fun a k q => by omega))
    have F91 : rdF h82 y (ntF (6 ≤ nu G) 3 f) (ntQ (6 ≤ nu G) (tkS T L p) f q) := by rw [(nt_iff (c := 6 ≤ nu G) (c' := True) (k := 3) (s := tkS T L p) (f := f) (q := q) ⟨fun _ => trivial, fun _ => by omega⟩).1, (nt_iff (c := 6 ≤ nu G) (c' := True) (k := 3) (s := tkS T L p) (f := f) (q := q) ⟨fun _ => trivial, fun _ => by omega⟩).2]; exact p85
    refine z_iconst (0) dX6_bladeLine_18 rfl ?_
    refine e_istore_n (L' := [_, _, _]) dX6_bladeLine_19 (Nat.le_of_ble_eq_true rfl) rfl ?_
    refine e_iload_n dX6_bladeLine_20 rfl ?_
    refine z_iconst (4) dX6_bladeLine_21 rfl ?_
    refine z_icmp_ge 51 dX6_bladeLine_22 rfl ⟨by omega, by omega⟩ ⟨by omega, by omega⟩ (fun c92 => ?_) (fun c92 => ?_)
    · exfalso; omega
    · skip
      refine e_aload_n dX6_bladeLine_25 rfl ?_
      refine e_iload_n dX6_bladeLine_26 rfl ?_
      refine e_gets dX6_bladeLine_27 ts_6_150 ?_
      refine e_iload_n dX6_bladeLine_30 rfl ?_
      refine z_oldK 1 dX6_bladeLine_31 (Or.inl (by decide)) (HA 0 (by decide)).1 (by decide) (by decide) (by decide) (by rw [(HA 0 (by decide)).2]; decide) ?_
      refine e_gets dX6_bladeLine_32 ts_6_153 ?_
      refine e_iload_n dX6_bladeLine_35 rfl ?_
      refine z_oldK 20 dX6_bladeLine_36 (Or.inl (by decide)) (HA 1 (by decide)).1 (by decide) (by decide) (by decide) (by rw [(HA 1 (by decide)).2]; decide) ?_
      refine e_callV [.int _, .int _, .int _] dX6_bladeLine_37 tm_6_156 rfl (Nat.le_of_ble_eq_true rfl) (congrArg Prod.fst (rd_s0 k87)) (Nat.le_of_ble_eq_true rfl) (Nat.le_refl _) (Nat.le_refl _) rfl (zp_X6_takeNumber k87 H88 p84 F91 0 ⟨by omega, by omega⟩ 1 ⟨by omega, by omega⟩ 20 ⟨by omega, by omega⟩ (by omega) (fun v93 p94 h95 f96 p97 => ?_))
      have k98 := lk_q (frm_s f96) k87
      have H99 := rdT_c f96 (fun a k q => by omega) H88
      have H100 := rwF_c f96 (fun a k q1 q2 => by omega) H89
      have FR101 := frm_t FR90 (frm_m (S' := (fun a k => (a = y ∧ (k = 3 ∨ k = 4 ∨ (8 ≤ k ∧ k ≤ 11))) ∨ (y + 1 ≤ a ∧ a < y + 25) ∨ a = y + 26)) f96 (fun a k q => by omega))
      skip
      refine z_if_ne 45 dX6_bladeLine_40 rfl ⟨by omega, by omega⟩ (fun c102 => ?_) (fun c102 => ?_)
      · skip
        obtain ⟨K103, K103p, K103f, K103n⟩ := tn_1 p97 (by omega)
        refine z_iinc (L' := [_, _, _]) dX6_bladeLine_45 rfl rfl ?_
        refine e_goto 20 dX6_bladeLine_48 rfl ?_
        refine e_iload_n dX6_bladeLine_20 rfl ?_
        refine z_iconst (4) dX6_bladeLine_21 rfl ?_
        refine z_icmp_ge 51 dX6_bladeLine_22 rfl ⟨by omega, by omega⟩ ⟨by omega, by omega⟩ (fun c104 => ?_) (fun c104 => ?_)
        · exfalso; omega
        · skip
          refine e_aload_n dX6_bladeLine_25 rfl ?_
          refine e_iload_n dX6_bladeLine_26 rfl ?_
          refine e_gets dX6_bladeLine_27 ts_6_150 ?_
          refine e_iload_n dX6_bladeLine_30 rfl ?_
          refine z_oldK 0 dX6_bladeLine_31 (Or.inl (by decide)) (HA 0 (by decide)).1 (by decide) (by decide) (by decide) (by rw [(HA 0 (by decide)).2]; decide) ?_
          refine e_gets dX6_bladeLine_32 ts_6_153 ?_
          refine e_iload_n dX6_bladeLine_35 rfl ?_
          refine z_oldK 3 dX6_bladeLine_36 (Or.inl (by decide)) (HA 1 (by decide)).1 (by decide) (by decide) (by decide) (by rw [(HA 1 (by decide)).2]; decide) ?_
          refine e_callV [.int _, .int _, .int _] dX6_bladeLine_37 tm_6_156 rfl (Nat.le_of_ble_eq_true rfl) (congrArg Prod.fst (rd_s0 k98)) (Nat.le_of_ble_eq_true rfl) (Nat.le_refl _) (Nat.le_refl _) rfl (zp_X6_takeNumber k98 H99 K103p K103f 1 ⟨by omega, by omega⟩ 0 ⟨by omega, by omega⟩ 3 ⟨by omega, by omega⟩ (by omega) (fun v105 p106 h107 f108 p109 => ?_))
          have k110 := lk_q (frm_s f108) k98
          have H111 := rdT_c f108 (fun a k q => by omega) H99
          have H112 := rwF_c f108 (fun a k q1 q2 => by omega) H100
          have FR113 := frm_t FR101 (frm_m (S' := (fun a k => (a = y ∧ (k = 3 ∨ k = 4 ∨ (8 ≤ k ∧ k ≤ 11))) ∨ (y + 1 ≤ a ∧ a < y + 25) ∨ a = y + 26)) f108 (fun a k q => by omega))
          skip
          refine z_if_ne 45 dX6_bladeLine_40 rfl ⟨by omega, by omega⟩ (fun c114 => ?_) (fun c114 => ?_)
          · skip
            obtain ⟨K115, K115p, K115f, K115n⟩ := tn_1 p109 (by omega)
            refine z_iinc (L' := [_, _, _]) dX6_bladeLine_45 rfl rfl ?_
            refine e_goto 20 dX6_bladeLine_48 rfl ?_
            refine e_iload_n dX6_bladeLine_20 rfl ?_
            refine z_iconst (4) dX6_bladeLine_21 rfl ?_
            refine z_icmp_ge 51 dX6_bladeLine_22 rfl ⟨by omega, by omega⟩ ⟨by omega, by omega⟩ (fun c116 => ?_) (fun c116 => ?_)
            · exfalso; omega
            · skip
              refine e_aload_n dX6_bladeLine_25 rfl ?_
              refine e_iload_n dX6_bladeLine_26 rfl ?_
              refine e_gets dX6_bladeLine_27 ts_6_150 ?_
              refine e_iload_n dX6_bladeLine_30 rfl ?_
              refine z_oldK 0 dX6_bladeLine_31 (Or.inl (by decide)) (HA 0 (by decide)).1 (by decide) (by decide) (by decide) (by rw [(HA 0 (by decide)).2]; decide) ?_
              refine e_gets dX6_bladeLine_32 ts_6_153 ?_
              refine e_iload_n dX6_bladeLine_35 rfl ?_
              refine z_oldK 20 dX6_bladeLine_36 (Or.inl (by decide)) (HA 1 (by decide)).1 (by decide) (by decide) (by decide) (by rw [(HA 1 (by decide)).2]; decide) ?_
              refine e_callV [.int _, .int _, .int _] dX6_bladeLine_37 tm_6_156 rfl (Nat.le_of_ble_eq_true rfl) (congrArg Prod.fst (rd_s0 k110)) (Nat.le_of_ble_eq_true rfl) (Nat.le_refl _) (Nat.le_refl _) rfl (zp_X6_takeNumber k110 H111 K115p K115f 2 ⟨by omega, by omega⟩ 0 ⟨by omega, by omega⟩ 20 ⟨by omega, by omega⟩ (by omega) (fun v117 p118 h119 f120 p121 => ?_))
              have k122 := lk_q (frm_s f120) k110
              have H123 := rdT_c f120 (fun a k q => by omega) H111
              have H124 := rwF_c f120 (fun a k q1 q2 => by omega) H112
              have FR125 := frm_t FR113 (frm_m (S' := (fun a k => (a = y ∧ (k = 3 ∨ k = 4 ∨ (8 ≤ k ∧ k ≤ 11))) ∨ (y + 1 ≤ a ∧ a < y + 25) ∨ a = y + 26)) f120 (fun a k q => by omega))
              skip
              refine z_if_ne 45 dX6_bladeLine_40 rfl ⟨by omega, by omega⟩ (fun c126 => ?_) (fun c126 => ?_)
              · skip
                obtain ⟨K127, K127p, K127f, K127n⟩ := tn_1 p121 (by omega)
                refine z_iinc (L' := [_, _, _]) dX6_bladeLine_45 rfl rfl ?_
                refine e_goto 20 dX6_bladeLine_48 rfl ?_
                refine e_iload_n dX6_bladeLine_20 rfl ?_
                refine z_iconst (4) dX6_bladeLine_21 rfl ?_
                refine z_icmp_ge 51 dX6_bladeLine_22 rfl ⟨by omega, by omega⟩ ⟨by omega, by omega⟩ (fun c128 => ?_) (fun c128 => ?_)
                · exfalso; omega
                · skip
                  refine e_aload_n dX6_bladeLine_25 rfl ?_
                  refine e_iload_n dX6_bladeLine_26 rfl ?_
                  refine e_gets dX6_bladeLine_27 ts_6_150 ?_
                  refine e_iload_n dX6_bladeLine_30 rfl ?_
                  refine z_oldK 0 dX6_bladeLine_31 (Or.inl (by decide)) (HA 0 (by decide)).1 (by decide) (by decide) (by decide) (by rw [(HA 0 (by decide)).2]; decide) ?_
                  refine e_gets dX6_bladeLine_32 ts_6_153 ?_
                  refine e_iload_n dX6_bladeLine_35 rfl ?_
                  refine z_oldK 1 dX6_bladeLine_36 (Or.inl (by decide)) (HA 1 (by decide)).1 (by decide) (by decide) (by decide) (by rw [(HA 1 (by decide)).2]; decide) ?_
                  refine e_callV [.int _, .int _, .int _] dX6_bladeLine_37 tm_6_156 rfl (Nat.le_of_ble_eq_true rfl) (congrArg Prod.fst (rd_s0 k122)) (Nat.le_of_ble_eq_true rfl) (Nat.le_refl _) (Nat.le_refl _) rfl (zp_X6_takeNumber k122 H123 K127p K127f 3 ⟨by omega, by omega⟩ 0 ⟨by omega, by omega⟩ 1 ⟨by omega, by omega⟩ (by omega) (fun v129 p130 h131 f132 p133 => ?_))
                  have k134 := lk_q (frm_s f132) k122
                  have H135 := rdT_c f132 (fun a k q => by omega) H123
                  have H136 := rwF_c f132 (fun a k q1 q2 => by omega) H124
                  have FR137 := frm_t FR125 (frm_m (S' := (fun a k => (a = y ∧ (k = 3 ∨ k = 4 ∨ (8 ≤ k ∧ k ≤ 11))) ∨ (y + 1 ≤ a ∧ a < y + 25) ∨ a = y + 26)) f132 (fun a k q => by omega))
                  skip
                  refine z_if_ne 45 dX6_bladeLine_40 rfl ⟨by omega, by omega⟩ (fun c138 => ?_) (fun c138 => ?_)
                  · skip
                    obtain ⟨K139, K139p, K139f, K139n⟩ := tn_1 p133 (by omega)
                    refine z_iinc (L' := [_, _, _]) dX6_bladeLine_45 rfl rfl ?_
                    refine e_goto 20 dX6_bladeLine_48 rfl ?_
                    refine e_iload_n dX6_bladeLine_20 rfl ?_
                    refine z_iconst (4) dX6_bladeLine_21 rfl ?_
                    refine z_icmp_ge 51 dX6_bladeLine_22 rfl ⟨by omega, by omega⟩ ⟨by omega, by omega⟩ (fun c140 => ?_) (fun c140 => ?_)
                    · skip
                      refine e_aload_n dX6_bladeLine_51 rfl ?_
                      refine e_aload_n dX6_bladeLine_52 rfl ?_
                      refine e_get (.ref (y + 26)) dX6_bladeLine_53 tf_6_43 (congrArg Prod.fst (rd_s0 k134)) (congrArg va_rf (rd_r0_6 k134)) ?_
                      refine z_iconst (0) dX6_bladeLine_56 rfl ?_
                      refine z_ild (tkV T L (tkE T L p)) dX6_bladeLine_57 (rd_s26 k134) (by decide) (by omega) (by omega) ((((frm_r f132 (by omega)).trans ((frm_r f120 (by omega)).trans (frm_r f108 (by omega))))).trans K103n) ?_
                      have y141 := tv_b K103
                      refine e_aload_n dX6_bladeLine_58 rfl ?_
                      refine e_get (.ref (y + 26)) dX6_bladeLine_59 tf_6_43 (congrArg Prod.fst (rd_s0 k134)) (congrArg va_rf (rd_r0_6 k134)) ?_
                      refine z_iconst (1) dX6_bladeLine_62 rfl ?_
                      refine z_ild (tkV T L (tkE T L (tkE T L p))) dX6_bladeLine_63 (rd_s26 k134) (by decide) (by omega) (by omega) ((((frm_r f132 (by omega)).trans (frm_r f120 (by omega)))).trans K115n) ?_
                      have y142 := tv_b K115
                      refine e_aload_n dX6_bladeLine_64 rfl ?_
                      refine e_get (.ref (y + 26)) dX6_bladeLine_65 tf_6_43 (congrArg Prod.fst (rd_s0 k134)) (congrArg va_rf (rd_r0_6 k134)) ?_
                      refine z_iconst (2) dX6_bladeLine_68 rfl ?_
                      refine z_ild (tkV T L (tkE T L (tkE T L (tkE T L p)))) dX6_bladeLine_69 (rd_s26 k134) (by decide) (by omega) (by omega) (((frm_r f132 (by omega))).trans K127n) ?_
                      have y143 := tv_b K127
                      refine e_aload_n dX6_bladeLine_70 rfl ?_
                      refine e_get (.ref (y + 26)) dX6_bladeLine_71 tf_6_43 (congrArg Prod.fst (rd_s0 k134)) (congrArg va_rf (rd_r0_6 k134)) ?_
                      refine z_iconst (3) dX6_bladeLine_74 rfl ?_
                      refine z_ild (tkV T L (tkE T L (tkE T L (tkE T L (tkE T L p))))) dX6_bladeLine_75 (rd_s26 k134) (by decide) (by omega) (by omega) K139n ?_
                      have y144 := tv_b K139
                      have SZ : rI h131 (y + 8) 5 = nu G := H136.1.2.1
                      refine e_callV [.int _, .int _, .int _, .int _] dX6_bladeLine_76 tm_6_160 rfl (Nat.le_of_ble_eq_true rfl) (congrArg Prod.fst (rd_s8 k134)) (Nat.le_of_ble_eq_true rfl) (Nat.le_refl _) (Nat.le_refl _) rfl (zp_X0_add_g (rd_bl8 k134) (nu G) (tkV T L (tkE T L p)) ⟨by omega, by omega⟩ (tkV T L (tkE T L (tkE T L p))) ⟨by omega, by omega⟩ (tkV T L (tkE T L (tkE T L (tkE T L p)))) ⟨by omega, by omega⟩ (tkV T L (tkE T L (tkE T L (tkE T L (tkE T L p))))) ⟨by omega, by omega⟩ ⟨SZ, by omega, by omega⟩ (fun  h145 f146 p147 => ?_))
                      have k148 := lk_q (frm_s f146) k134
                      have H149 := rdT_c f146 (fun a k q => by omega) H135
                      have H150 := rdP_c f146 (fun a k q => by omega) K139p
                      have H151 := rdF_c f146 (fun a k q => by omega) K139f
                      have FR152 := frm_t FR137 (frm_m (S' := (fun a k => (a = y ∧ (k = 3 ∨ k = 4 ∨ (8 ≤ k ∧ k ≤ 11))) ∨ (y + 1 ≤ a ∧ a < y + 25) ∨ a = y + 26)) f146 (fun a k q => by omega))
                      have G1 : rwF h145 (y + 1) (adG G 1 (tkV T L (tkE T L p)) (tkV T L (tkE T L (tkE T L p))) (tkV T L (tkE T L (tkE T L (tkE T L p)))) (tkV T L (tkE T L (tkE T L (tkE T L (tkE T L p)))))) := rwF_a1 pw H136 f146 p147
                      refine e_aload_n dX6_bladeLine_79 rfl ?_
                      refine e_callV [] dX6_bladeLine_80 tm_6_164 rfl (Nat.le_of_ble_eq_true rfl) (congrArg Prod.fst (rd_s0 k148)) (Nat.le_of_ble_eq_true rfl) (Nat.le_refl _) (Nat.le_refl _) rfl (zp_X6_takeStop k148 H149 H150 H151 (fun v153 p154 h155 f156 p157 => ?_))
                      have k158 := lk_q (frm_s f156) k148
                      have H159 := rdT_c f156 (fun a k q => by omega) H149
                      have H160 := rwF_c f156 (fun a k q1 q2 => by omega) G1
                      have FR161 := frm_t FR152 (frm_m (S' := (fun a k => (a = y ∧ (k = 3 ∨ k = 4 ∨ (8 ≤ k ∧ k ≤ 11))) ∨ (y + 1 ≤ a ∧ a < y + 25) ∨ a = y + 26)) f156 (fun a k q => by omega))
                      skip
                      refine z_bret dX6_bladeLine_83 rfl (by omega) ⟨rfl, ?_⟩
                      rcases p157 with ⟨w, k5, P5, F5⟩ | ⟨w, k5, F5⟩
                      · exact kq _ (Or.inr w) _ FR161 (Or.inl ⟨w, ⟨K103, K115, K127, K139, k5⟩, P5, F5, H160⟩)
                      · exact kq _ (Or.inl w) _ FR161 (Or.inr ⟨w, fun z => k5 z.2.2.2.2, by rw [xp_y K103, xp_y K115, xp_y K127, xp_y K139]; exact F5⟩)
                    · exfalso; omega
                  · skip
                    obtain ⟨k0, f0⟩ := tn_0 p133 (by omega)
                    refine z_iconst (0) dX6_bladeLine_43 rfl ?_
                    refine z_bret dX6_bladeLine_44 rfl (Or.inl rfl) ⟨rfl, ?_⟩
                    exact kq 0 (Or.inl rfl) _ FR137 (Or.inr ⟨rfl, fun z => k0 z.2.2.2.1, by rw [xp_y K103, xp_y K115, xp_y K127, xp_n k0]; exact f0⟩)
              · skip
                obtain ⟨k0, f0⟩ := tn_0 p121 (by omega)
                refine z_iconst (0) dX6_bladeLine_43 rfl ?_
                refine z_bret dX6_bladeLine_44 rfl (Or.inl rfl) ⟨rfl, ?_⟩
                exact kq 0 (Or.inl rfl) _ FR125 (Or.inr ⟨rfl, fun z => k0 z.2.2.1, by rw [xp_y K103, xp_y K115, xp_n k0]; exact f0⟩)
          · skip
            obtain ⟨k0, f0⟩ := tn_0 p109 (by omega)
            refine z_iconst (0) dX6_bladeLine_43 rfl ?_
            refine z_bret dX6_bladeLine_44 rfl (Or.inl rfl) ⟨rfl, ?_⟩
            exact kq 0 (Or.inl rfl) _ FR113 (Or.inr ⟨rfl, fun z => k0 z.2.1, by rw [xp_y K103, xp_n k0]; exact f0⟩)
      · skip
        obtain ⟨k0, f0⟩ := tn_0 p97 (by omega)
        refine z_iconst (0) dX6_bladeLine_43 rfl ?_
        refine z_bret dX6_bladeLine_44 rfl (Or.inl rfl) ⟨rfl, ?_⟩
        exact kq 0 (Or.inl rfl) _ FR101 (Or.inr ⟨rfl, fun z => k0 z.1, by rw [xp_n k0]; exact f0⟩)
set_option maxHeartbeats 4000000 in
theorem zp_X6_clothLine {ad : mA} {dd : Nat} {h : mH} {Q : mQ} {y : Nat} {T G : Int → Int} {L p f q : Int} (hk : rdk h y) (HT : rdT h y T L) (HP : rdP h y T L p) (HF : rdF h y f q) (HG : rwF h (y + 1) G) (HA : adK ad)  (pw : wfR G) (kq : ∀ v : Int, (v = 0 ∨ v = 1) → ∀ h1, frm (fun a k => (a = y ∧ (k = 3 ∨ k = 4 ∨ (8 ≤ k ∧ k ≤ 11))) ∨ (y + 1 ≤ a ∧ a < y + 25) ∨ a = y + 26) h h1 → (lnO h1 y T L [(1, 70), (0, 20), (0, 9)] (tkE T L p) (ntF (6 ≤ nc G) 3 f) (ntQ (6 ≤ nc G) (tkS T L p) f q) v (rwF h1 (y + 1) (clG G (tkV T L (tkE T L p)) (tkV T L (tkE T L (tkE T L p))) (tkV T L (tkE T L (tkE T L (tkE T L p))))))) → Q (some (.int (zI v))) h1) : mCal TB0 ad (dd + 5) M_X6_clothLine [.ref y] h 0 0 Q := by
  refine ⟨Nat.le_of_ble_eq_true rfl, ?_⟩
  show mEv TB0 ad M_X6_clothLine (dd + 5) (0, 0) (mCal TB0 ad (dd + 4)) (fun v h' z => z.1 = 0 ∧ Q v h') 0 [some (.ref y), none] [] h (0, 0)
  have FR0 : frm (fun a k => (a = y ∧ (k = 3 ∨ k = 4 ∨ (8 ≤ k ∧ k ≤ 11))) ∨ (y + 1 ≤ a ∧ a < y + 25) ∨ a = y + 26) h h := frm_0 h
  have wn1 := pw.1
  have wn2 := pw.2.1
  have wn3 := pw.2.2.1
  have w1 := HT.1
  have tb := tk_b (T := T) HP.1.1 HP.1.2
  have p0 := HP.1
  refine e_aload_n dX6_clothLine_0 rfl ?_
  refine e_aload_n dX6_clothLine_1 rfl ?_
  refine e_get (.ref (y + 1)) dX6_clothLine_2 tf_6_12 (congrArg Prod.fst (rd_s0 hk)) (congrArg va_rf (rd_r0_0 hk)) ?_
  refine z_get (nc G) dX6_clothLine_5 tf_6_167 (congrArg Prod.fst (rd_s1 hk)) (Or.inl rfl) HG.1.2.2 ?_
  refine z_bipush (6) dX6_clothLine_8 rfl ?_
  refine z_icmp_lt 17 dX6_clothLine_10 rfl ⟨by omega, by omega⟩ ⟨by omega, by omega⟩ (fun c1 => ?_) (fun c1 => ?_)
  · skip
    refine z_iconst (0) dX6_clothLine_17 rfl ?_
    refine e_callV [.int _] dX6_clothLine_18 tm_6_146 rfl (Nat.le_of_ble_eq_true rfl) (congrArg Prod.fst (rd_s0 hk)) (Nat.le_of_ble_eq_true rfl) (Nat.le_refl _) (Nat.le_refl _) rfl (zp_X6_beginLine hk HT HP HF False (fun  h2 f3 p4 p5 p6 => ?_))
    have k7 := lk_q (frm_s f3) hk
    have H8 := rdT_c f3 (fun a k q => by omega) HT
    have H9 := rwF_c f3 (fun a k q1 q2 => by omega) HG
    have FR10 := frm_t FR0 (frm_m (S' := (fun a k => (a = y ∧ (k = 3 ∨ k = 4 ∨ (8 ≤ k ∧ k ≤ 11))) ∨ (y + 1 ≤ a ∧ a < y + 25) ∨ a = y + 26)) f3 (fun a k q => by omega))
    have F11 : rdF h2 y (ntF (6 ≤ nc G) 3 f) (ntQ (6 ≤ nc G) (tkS T L p) f q) := by rw [(nt_iff (c := 6 ≤ nc G) (c' := False) (k := 3) (s := tkS T L p) (f := f) (q := q) ⟨fun z => absurd z (by omega), fun z => z.elim⟩).1, (nt_iff (c := 6 ≤ nc G) (c' := False) (k := 3) (s := tkS T L p) (f := f) (q := q) ⟨fun z => absurd z (by omega), fun z => z.elim⟩).2]; exact p5
    refine z_iconst (0) dX6_clothLine_21 rfl ?_
    refine e_istore_n (L' := [_, _]) dX6_clothLine_22 (Nat.le_of_ble_eq_true rfl) rfl ?_
    refine e_iload_n dX6_clothLine_23 rfl ?_
    refine z_iconst (3) dX6_clothLine_24 rfl ?_
    refine z_icmp_ge 54 dX6_clothLine_25 rfl ⟨by omega, by omega⟩ ⟨by omega, by omega⟩ (fun c12 => ?_) (fun c12 => ?_)
    · exfalso; omega
    · skip
      refine e_aload_n dX6_clothLine_28 rfl ?_
      refine e_iload_n dX6_clothLine_29 rfl ?_
      refine e_gets dX6_clothLine_30 ts_6_170 ?_
      refine e_iload_n dX6_clothLine_33 rfl ?_
      refine z_oldK 1 dX6_clothLine_34 (Or.inl (by decide)) (HA 2 (by decide)).1 (by decide) (by decide) (by decide) (by rw [(HA 2 (by decide)).2]; decide) ?_
      refine e_gets dX6_clothLine_35 ts_6_173 ?_
      refine e_iload_n dX6_clothLine_38 rfl ?_
      refine z_oldK 70 dX6_clothLine_39 (Or.inl (by decide)) (HA 3 (by decide)).1 (by decide) (by decide) (by decide) (by rw [(HA 3 (by decide)).2]; decide) ?_
      refine e_callV [.int _, .int _, .int _] dX6_clothLine_40 tm_6_156 rfl (Nat.le_of_ble_eq_true rfl) (congrArg Prod.fst (rd_s0 k7)) (Nat.le_of_ble_eq_true rfl) (Nat.le_refl _) (Nat.le_refl _) rfl (zp_X6_takeNumber k7 H8 p4 F11 0 ⟨by omega, by omega⟩ 1 ⟨by omega, by omega⟩ 70 ⟨by omega, by omega⟩ (by omega) (fun v13 p14 h15 f16 p17 => ?_))
      have k18 := lk_q (frm_s f16) k7
      have H19 := rdT_c f16 (fun a k q => by omega) H8
      have H20 := rwF_c f16 (fun a k q1 q2 => by omega) H9
      have FR21 := frm_t FR10 (frm_m (S' := (fun a k => (a = y ∧ (k = 3 ∨ k = 4 ∨ (8 ≤ k ∧ k ≤ 11))) ∨ (y + 1 ≤ a ∧ a < y + 25) ∨ a = y + 26)) f16 (fun a k q => by omega))
      skip
      refine z_if_ne 48 dX6_clothLine_43 rfl ⟨by omega, by omega⟩ (fun c22 => ?_) (fun c22 => ?_)
      · skip
        obtain ⟨K23, K23p, K23f, K23n⟩ := tn_1 p17 (by omega)
        refine z_iinc (L' := [_, _]) dX6_clothLine_48 rfl rfl ?_
        refine e_goto 23 dX6_clothLine_51 rfl ?_
        refine e_iload_n dX6_clothLine_23 rfl ?_
        refine z_iconst (3) dX6_clothLine_24 rfl ?_
        refine z_icmp_ge 54 dX6_clothLine_25 rfl ⟨by omega, by omega⟩ ⟨by omega, by omega⟩ (fun c24 => ?_) (fun c24 => ?_)
        · exfalso; omega
        · skip
          refine e_aload_n dX6_clothLine_28 rfl ?_
          refine e_iload_n dX6_clothLine_29 rfl ?_
          refine e_gets dX6_clothLine_30 ts_6_170 ?_
          refine e_iload_n dX6_clothLine_33 rfl ?_
          refine z_oldK 0 dX6_clothLine_34 (Or.inl (by decide)) (HA 2 (by decide)).1 (by decide) (by decide) (by decide) (by rw [(HA 2 (by decide)).2]; decide) ?_
          refine e_gets dX6_clothLine_35 ts_6_173 ?_
          refine e_iload_n dX6_clothLine_38 rfl ?_
          refine z_oldK 20 dX6_clothLine_39 (Or.inl (by decide)) (HA 3 (by decide)).1 (by decide) (by decide) (by decide) (by rw [(HA 3 (by decide)).2]; decide) ?_
          refine e_callV [.int _, .int _, .int _] dX6_clothLine_40 tm_6_156 rfl (Nat.le_of_ble_eq_true rfl) (congrArg Prod.fst (rd_s0 k18)) (Nat.le_of_ble_eq_true rfl) (Nat.le_refl _) (Nat.le_refl _) rfl (zp_X6_takeNumber k18 H19 K23p K23f 1 ⟨by omega, by omega⟩ 0 ⟨by omega, by omega⟩ 20 ⟨by omega, by omega⟩ (by omega) (fun v25 p26 h27 f28 p29 => ?_))
          have k30 := lk_q (frm_s f28) k18
          have H31 := rdT_c f28 (fun a k q => by omega) H19
          have H32 := rwF_c f28 (fun a k q1 q2 => by omega) H20
          have FR33 := frm_t FR21 (frm_m (S' := (fun a k => (a = y ∧ (k = 3 ∨ k = 4 ∨ (8 ≤ k ∧ k ≤ 11))) ∨ (y + 1 ≤ a ∧ a < y + 25) ∨ a = y + 26)) f28 (fun a k q => by omega))
          skip
          refine z_if_ne 48 dX6_clothLine_43 rfl ⟨by omega, by omega⟩ (fun c34 => ?_) (fun c34 => ?_)
          · skip
            obtain ⟨K35, K35p, K35f, K35n⟩ := tn_1 p29 (by omega)
            refine z_iinc (L' := [_, _]) dX6_clothLine_48 rfl rfl ?_
            refine e_goto 23 dX6_clothLine_51 rfl ?_
            refine e_iload_n dX6_clothLine_23 rfl ?_
            refine z_iconst (3) dX6_clothLine_24 rfl ?_
            refine z_icmp_ge 54 dX6_clothLine_25 rfl ⟨by omega, by omega⟩ ⟨by omega, by omega⟩ (fun c36 => ?_) (fun c36 => ?_)
            · exfalso; omega
            · skip
              refine e_aload_n dX6_clothLine_28 rfl ?_
              refine e_iload_n dX6_clothLine_29 rfl ?_
              refine e_gets dX6_clothLine_30 ts_6_170 ?_
              refine e_iload_n dX6_clothLine_33 rfl ?_
              refine z_oldK 0 dX6_clothLine_34 (Or.inl (by decide)) (HA 2 (by decide)).1 (by decide) (by decide) (by decide) (by rw [(HA 2 (by decide)).2]; decide) ?_
              refine e_gets dX6_clothLine_35 ts_6_173 ?_
              refine e_iload_n dX6_clothLine_38 rfl ?_
              refine z_oldK 9 dX6_clothLine_39 (Or.inl (by decide)) (HA 3 (by decide)).1 (by decide) (by decide) (by decide) (by rw [(HA 3 (by decide)).2]; decide) ?_
              refine e_callV [.int _, .int _, .int _] dX6_clothLine_40 tm_6_156 rfl (Nat.le_of_ble_eq_true rfl) (congrArg Prod.fst (rd_s0 k30)) (Nat.le_of_ble_eq_true rfl) (Nat.le_refl _) (Nat.le_refl _) rfl (zp_X6_takeNumber k30 H31 K35p K35f 2 ⟨by omega, by omega⟩ 0 ⟨by omega, by omega⟩ 9 ⟨by omega, by omega⟩ (by omega) (fun v37 p38 h39 f40 p41 => ?_))
              have k42 := lk_q (frm_s f40) k30
              have H43 := rdT_c f40 (fun a k q => by omega) H31
              have H44 := rwF_c f40 (fun a k q1 q2 => by omega) H32
              have FR45 := frm_t FR33 (frm_m (S' := (fun a k => (a = y ∧ (k = 3 ∨ k = 4 ∨ (8 ≤ k ∧ k ≤ 11))) ∨ (y + 1 ≤ a ∧ a < y + 25) ∨ a = y + 26)) f40 (fun a k q => by omega))
              skip
              refine z_if_ne 48 dX6_clothLine_43 rfl ⟨by omega, by omega⟩ (fun c46 => ?_) (fun c46 => ?_)
              · skip
                obtain ⟨K47, K47p, K47f, K47n⟩ := tn_1 p41 (by omega)
                refine z_iinc (L' := [_, _]) dX6_clothLine_48 rfl rfl ?_
                refine e_goto 23 dX6_clothLine_51 rfl ?_
                refine e_iload_n dX6_clothLine_23 rfl ?_
                refine z_iconst (3) dX6_clothLine_24 rfl ?_
                refine z_icmp_ge 54 dX6_clothLine_25 rfl ⟨by omega, by omega⟩ ⟨by omega, by omega⟩ (fun c48 => ?_) (fun c48 => ?_)
                · skip
                  refine e_aload_n dX6_clothLine_54 rfl ?_
                  refine e_get (.ref (y + 1)) dX6_clothLine_55 tf_6_12 (congrArg Prod.fst (rd_s0 k42)) (congrArg va_rf (rd_r0_0 k42)) ?_
                  refine e_aload_n dX6_clothLine_58 rfl ?_
                  refine e_get (.ref (y + 26)) dX6_clothLine_59 tf_6_43 (congrArg Prod.fst (rd_s0 k42)) (congrArg va_rf (rd_r0_6 k42)) ?_
                  refine z_iconst (0) dX6_clothLine_62 rfl ?_
                  refine z_ild (tkV T L (tkE T L p)) dX6_clothLine_63 (rd_s26 k42) (by decide) (by omega) (by omega) ((((frm_r f40 (by omega)).trans (frm_r f28 (by omega)))).trans K23n) ?_
                  have y49 := tv_b K23
                  refine e_aload_n dX6_clothLine_64 rfl ?_
                  refine e_get (.ref (y + 26)) dX6_clothLine_65 tf_6_43 (congrArg Prod.fst (rd_s0 k42)) (congrArg va_rf (rd_r0_6 k42)) ?_
                  refine z_iconst (1) dX6_clothLine_68 rfl ?_
                  refine z_ild (tkV T L (tkE T L (tkE T L p))) dX6_clothLine_69 (rd_s26 k42) (by decide) (by omega) (by omega) (((frm_r f40 (by omega))).trans K35n) ?_
                  have y50 := tv_b K35
                  refine e_aload_n dX6_clothLine_70 rfl ?_
                  refine e_get (.ref (y + 26)) dX6_clothLine_71 tf_6_43 (congrArg Prod.fst (rd_s0 k42)) (congrArg va_rf (rd_r0_6 k42)) ?_
                  refine z_iconst (2) dX6_clothLine_74 rfl ?_
                  refine z_ild (tkV T L (tkE T L (tkE T L (tkE T L p)))) dX6_clothLine_75 (rd_s26 k42) (by decide) (by omega) (by omega) K47n ?_
                  have y51 := tv_b K47
                  have SZ : rI h39 (y + 1) 5 = nc G := H44.1.2.2
                  refine e_callV [.int _, .int _, .int _] dX6_clothLine_76 tm_6_176 rfl (Nat.le_of_ble_eq_true rfl) (congrArg Prod.fst (rd_s1 k42)) (Nat.le_of_ble_eq_true rfl) (Nat.le_refl _) (Nat.le_refl _) rfl (zp_X2_addCloth (rd_fg1 k42) (nc G) (tkV T L (tkE T L p)) ⟨by omega, by omega⟩ (tkV T L (tkE T L (tkE T L p))) ⟨by omega, by omega⟩ (tkV T L (tkE T L (tkE T L (tkE T L p)))) ⟨by omega, by omega⟩ ⟨SZ, by omega, by omega⟩ (fun  h52 f53 p54 => ?_))
                  have k55 := lk_q (frm_s f53) k42
                  have H56 := rdT_c f53 (fun a k q => by omega) H43
                  have H57 := rdP_c f53 (fun a k q => by omega) K47p
                  have H58 := rdF_c f53 (fun a k q => by omega) K47f
                  have FR59 := frm_t FR45 (frm_m (S' := (fun a k => (a = y ∧ (k = 3 ∨ k = 4 ∨ (8 ≤ k ∧ k ≤ 11))) ∨ (y + 1 ≤ a ∧ a < y + 25) ∨ a = y + 26)) f53 (fun a k q => by omega))
                  have G1 : rwF h52 (y + 1) (clG G (tkV T L (tkE T L p)) (tkV T L (tkE T L (tkE T L p))) (tkV T L (tkE T L (tkE T L (tkE T L p))))) := rwF_cl pw H44 f53 p54
                  refine e_aload_n dX6_clothLine_79 rfl ?_
                  refine e_callV [] dX6_clothLine_80 tm_6_164 rfl (Nat.le_of_ble_eq_true rfl) (congrArg Prod.fst (rd_s0 k55)) (Nat.le_of_ble_eq_true rfl) (Nat.le_refl _) (Nat.le_refl _) rfl (zp_X6_takeStop k55 H56 H57 H58 (fun v60 p61 h62 f63 p64 => ?_))
                  have k65 := lk_q (frm_s f63) k55
                  have H66 := rdT_c f63 (fun a k q => by omega) H56
                  have H67 := rwF_c f63 (fun a k q1 q2 => by omega) G1
                  have FR68 := frm_t FR59 (frm_m (S' := (fun a k => (a = y ∧ (k = 3 ∨ k = 4 ∨ (8 ≤ k ∧ k ≤ 11))) ∨ (y + 1 ≤ a ∧ a < y + 25) ∨ a = y + 26)) f63 (fun a k q => by omega))
                  skip
                  refine z_bret dX6_clothLine_83 rfl (by omega) ⟨rfl, ?_⟩
                  rcases p64 with ⟨w, k5, P5, F5⟩ | ⟨w, k5, F5⟩
                  · exact kq _ (Or.inr w) _ FR68 (Or.inl ⟨w, ⟨K23, K35, K47, k5⟩, P5, F5, H67⟩)
                  · exact kq _ (Or.inl w) _ FR68 (Or.inr ⟨w, fun z => k5 z.2.2.2, by rw [xp_y K23, xp_y K35, xp_y K47]; exact F5⟩)
                · exfalso; omega
              · skip
                obtain ⟨k0, f0⟩ := tn_0 p41 (by omega)
                refine z_iconst (0) dX6_clothLine_46 rfl ?_
                refine z_bret dX6_clothLine_47 rfl (Or.inl rfl) ⟨rfl, ?_⟩
                exact kq 0 (Or.inl rfl) _ FR45 (Or.inr ⟨rfl, fun z => k0 z.2.2.1, by rw [xp_y K23, xp_y K35, xp_n k0]; exact f0⟩)
          · skip
            obtain ⟨k0, f0⟩ := tn_0 p29 (by omega)
            refine z_iconst (0) dX6_clothLine_46 rfl ?_
            refine z_bret dX6_clothLine_47 rfl (Or.inl rfl) ⟨rfl, ?_⟩
            exact kq 0 (Or.inl rfl) _ FR33 (Or.inr ⟨rfl, fun z => k0 z.2.1, by rw [xp_y K23, xp_n k0]; exact f0⟩)
      · skip
        obtain ⟨k0, f0⟩ := tn_0 p17 (by omega)
        refine z_iconst (0) dX6_clothLine_46 rfl ?_
        refine z_bret dX6_clothLine_47 rfl (Or.inl rfl) ⟨rfl, ?_⟩
        exact kq 0 (Or.inl rfl) _ FR21 (Or.inr ⟨rfl, fun z => k0 z.1, by rw [xp_n k0]; exact f0⟩)
  · skip
    refine z_iconst (1) dX6_clothLine_13 rfl ?_
    refine e_goto 18 dX6_clothLine_14 rfl ?_
    refine e_callV [.int _] dX6_clothLine_18 tm_6_146 rfl (Nat.le_of_ble_eq_true rfl) (congrArg Prod.fst (rd_s0 hk)) (Nat.le_of_ble_eq_true rfl) (Nat.le_refl _) (Nat.le_refl _) rfl (zp_X6_beginLine hk HT HP HF True (fun  h69 f70 p71 p72 p73 => ?_))
    have k74 := lk_q (frm_s f70) hk
    have H75 := rdT_c f70 (fun a k q => by omega) HT
    have H76 := rwF_c f70 (fun a k q1 q2 => by omega) HG
    have FR77 := frm_t FR0 (frm_m (S' := (fun a k => (a = y ∧ (k = 3 ∨ k = 4 ∨ (8 ≤ k ∧ k ≤ 11))) ∨ (y + 1 ≤ a ∧ a < y + 25) ∨ a = y + 26)) f70 (fun a k q => by omega))
    have F78 : rdF h69 y (ntF (6 ≤ nc G) 3 f) (ntQ (6 ≤ nc G) (tkS T L p) f q) := by rw [(nt_iff (c := 6 ≤ nc G) (c' := True) (k := 3) (s := tkS T L p) (f := f) (q := q) ⟨fun _ => trivial, fun _ => by omega⟩).1, (nt_iff (c := 6 ≤ nc G) (c' := True) (k := 3) (s := tkS T L p) (f := f) (q := q) ⟨fun _ => trivial, fun _ => by omega⟩).2]; exact p72
    refine z_iconst (0) dX6_clothLine_21 rfl ?_
    refine e_istore_n (L' := [_, _]) dX6_clothLine_22 (Nat.le_of_ble_eq_true rfl) rfl ?_
    refine e_iload_n dX6_clothLine_23 rfl ?_
    refine z_iconst (3) dX6_clothLine_24 rfl ?_
    refine z_icmp_ge 54 dX6_clothLine_25 rfl ⟨by omega, by omega⟩ ⟨by omega, by omega⟩ (fun c79 => ?_) (fun c79 => ?_)
    · exfalso; omega
    · skip
      refine e_aload_n dX6_clothLine_28 rfl ?_
      refine e_iload_n dX6_clothLine_29 rfl ?_
      refine e_gets dX6_clothLine_30 ts_6_170 ?_
      refine e_iload_n dX6_clothLine_33 rfl ?_
      refine z_oldK 1 dX6_clothLine_34 (Or.inl (by decide)) (HA 2 (by decide)).1 (by decide) (by decide) (by decide) (by rw [(HA 2 (by decide)).2]; decide) ?_
      refine e_gets dX6_clothLine_35 ts_6_173 ?_
      refine e_iload_n dX6_clothLine_38 rfl ?_
      refine z_oldK 70 dX6_clothLine_39 (Or.inl (by decide)) (HA 3 (by decide)).1 (by decide) (by decide) (by decide) (by rw [(HA 3 (by decide)).2]; decide) ?_
      refine e_callV [.int _, .int _, .int _] dX6_clothLine_40 tm_6_156 rfl (Nat.le_of_ble_eq_true rfl) (congrArg Prod.fst (rd_s0 k74)) (Nat.le_of_ble_eq_true rfl) (Nat.le_refl _) (Nat.le_refl _) rfl (zp_X6_takeNumber k74 H75 p71 F78 0 ⟨by omega, by omega⟩ 1 ⟨by omega, by omega⟩ 70 ⟨by omega, by omega⟩ (by omega) (fun v80 p81 h82 f83 p84 => ?_))
      have k85 := lk_q (frm_s f83) k74
      have H86 := rdT_c f83 (fun a k q => by omega) H75
      have H87 := rwF_c f83 (fun a k q1 q2 => by omega) H76
      have FR88 := frm_t FR77 (frm_m (S' := (fun a k => (a = y ∧ (k = 3 ∨ k = 4 ∨ (8 ≤ k ∧ k ≤ 11))) ∨ (y + 1 ≤ a ∧ a < y + 25) ∨ a = y + 26)) f83 (fun a k q => by omega))
      skip
      refine z_if_ne 48 dX6_clothLine_43 rfl ⟨by omega, by omega⟩ (fun c89 => ?_) (fun c89 => ?_)
      · skip
        obtain ⟨K90, K90p, K90f, K90n⟩ := tn_1 p84 (by omega)
        refine z_iinc (L' := [_, _]) dX6_clothLine_48 rfl rfl ?_
        refine e_goto 23 dX6_clothLine_51 rfl ?_
        refine e_iload_n dX6_clothLine_23 rfl ?_
        refine z_iconst (3) dX6_clothLine_24 rfl ?_
        refine z_icmp_ge 54 dX6_clothLine_25 rfl ⟨by omega, by omega⟩ ⟨by omega, by omega⟩ (fun c91 => ?_) (fun c91 => ?_)
        · exfalso; omega
        · skip
          refine e_aload_n dX6_clothLine_28 rfl ?_
          refine e_iload_n dX6_clothLine_29 rfl ?_
          refine e_gets dX6_clothLine_30 ts_6_170 ?_
          refine e_iload_n dX6_clothLine_33 rfl ?_
          refine z_oldK 0 dX6_clothLine_34 (Or.inl (by decide)) (HA 2 (by decide)).1 (by decide) (by decide) (by decide) (by rw [(HA 2 (by decide)).2]; decide) ?_
          refine e_gets dX6_clothLine_35 ts_6_173 ?_
          refine e_iload_n dX6_clothLine_38 rfl ?_
          refine z_oldK 20 dX6_clothLine_39 (Or.inl (by decide)) (HA 3 (by decide)).1 (by decide) (by decide) (by decide) (by rw [(HA 3 (by decide)).2]; decide) ?_
          refine e_callV [.int _, .int _, .int _] dX6_clothLine_40 tm_6_156 rfl (Nat.le_of_ble_eq_true rfl) (congrArg Prod.fst (rd_s0 k85)) (Nat.le_of_ble_eq_true rfl) (Nat.le_refl _) (Nat.le_refl _) rfl (zp_X6_takeNumber k85 H86 K90p K90f 1 ⟨by omega, by omega⟩ 0 ⟨by omega, by omega⟩ 20 ⟨by omega, by omega⟩ (by omega) (fun v92 p93 h94 f95 p96 => ?_))
          have k97 := lk_q (frm_s f95) k85
          have H98 := rdT_c f95 (fun a k q => by omega) H86
          have H99 := rwF_c f95 (fun a k q1 q2 => by omega) H87
          have FR100 := frm_t FR88 (frm_m (S' := (fun a k => (a = y ∧ (k = 3 ∨ k = 4 ∨ (8 ≤ k ∧ k ≤ 11))) ∨ (y + 1 ≤ a ∧ a < y + 25) ∨ a = y + 26)) f95 (fun a k q => by omega))
          skip
          refine z_if_ne 48 dX6_clothLine_43 rfl ⟨by omega, by omega⟩ (fun c101 => ?_) (fun c101 => ?_)
          · skip
            obtain ⟨K102, K102p, K102f, K102n⟩ := tn_1 p96 (by omega)
            refine z_iinc (L' := [_, _]) dX6_clothLine_48 rfl rfl ?_
            refine e_goto 23 dX6_clothLine_51 rfl ?_
            refine e_iload_n dX6_clothLine_23 rfl ?_
            refine z_iconst (3) dX6_clothLine_24 rfl ?_
            refine z_icmp_ge 54 dX6_clothLine_25 rfl ⟨by omega, by omega⟩ ⟨by omega, by omega⟩ (fun c103 => ?_) (fun c103 => ?_)
            · exfalso; omega
            · skip
              refine e_aload_n dX6_clothLine_28 rfl ?_
              refine e_iload_n dX6_clothLine_29 rfl ?_
              refine e_gets dX6_clothLine_30 ts_6_170 ?_
              refine e_iload_n dX6_clothLine_33 rfl ?_
              refine z_oldK 0 dX6_clothLine_34 (Or.inl (by decide)) (HA 2 (by decide)).1 (by decide) (by decide) (by decide) (by rw [(HA 2 (by decide)).2]; decide) ?_
              refine e_gets dX6_clothLine_35 ts_6_173 ?_
              refine e_iload_n dX6_clothLine_38 rfl ?_
              refine z_oldK 9 dX6_clothLine_39 (Or.inl (by decide)) (HA 3 (by decide)).1 (by decide) (by decide) (by decide) (by rw [(HA 3 (by decide)).2]; decide) ?_
              refine e_callV [.int _, .int _, .int _] dX6_clothLine_40 tm_6_156 rfl (Nat.le_of_ble_eq_true rfl) (congrArg Prod.fst (rd_s0 k97)) (Nat.le_of_ble_eq_true rfl) (Nat.le_refl _) (Nat.le_refl _) rfl (zp_X6_takeNumber k97 H98 K102p K102f 2 ⟨by omega, by omega⟩ 0 ⟨by omega, by omega⟩ 9 ⟨by omega, by omega⟩ (by omega) (fun v104 p105 h106 f107 p108 => ?_))
              have k109 := lk_q (frm_s f107) k97
              have H110 := rdT_c f107 (fun a k q => by omega) H98
              have H111 := rwF_c f107 (fun a k q1 q2 => by omega) H99
              have FR112 := frm_t FR100 (frm_m (S' := (fun a k => (a = y ∧ (k = 3 ∨ k = 4 ∨ (8 ≤ k ∧ k ≤ 11))) ∨ (y + 1 ≤ a ∧ a < y + 25) ∨ a = y + 26)) f107 (fun a k q => by omega))
              skip
              refine z_if_ne 48 dX6_clothLine_43 rfl ⟨by omega, by omega⟩ (fun c113 => ?_) (fun c113 => ?_)
              · skip
                obtain ⟨K114, K114p, K114f, K114n⟩ := tn_1 p108 (by omega)
                refine z_iinc (L' := [_, _]) dX6_clothLine_48 rfl rfl ?_
                refine e_goto 23 dX6_clothLine_51 rfl ?_
                refine e_iload_n dX6_clothLine_23 rfl ?_
                refine z_iconst (3) dX6_clothLine_24 rfl ?_
                refine z_icmp_ge 54 dX6_clothLine_25 rfl ⟨by omega, by omega⟩ ⟨by omega, by omega⟩ (fun c115 => ?_) (fun c115 => ?_)
                · skip
                  refine e_aload_n dX6_clothLine_54 rfl ?_
                  refine e_get (.ref (y + 1)) dX6_clothLine_55 tf_6_12 (congrArg Prod.fst (rd_s0 k109)) (congrArg va_rf (rd_r0_0 k109)) ?_
                  refine e_aload_n dX6_clothLine_58 rfl ?_
                  refine e_get (.ref (y + 26)) dX6_clothLine_59 tf_6_43 (congrArg Prod.fst (rd_s0 k109)) (congrArg va_rf (rd_r0_6 k109)) ?_
                  refine z_iconst (0) dX6_clothLine_62 rfl ?_
                  refine z_ild (tkV T L (tkE T L p)) dX6_clothLine_63 (rd_s26 k109) (by decide) (by omega) (by omega) ((((frm_r f107 (by omega)).trans (frm_r f95 (by omega)))).trans K90n) ?_
                  have y116 := tv_b K90
                  refine e_aload_n dX6_clothLine_64 rfl ?_
                  refine e_get (.ref (y + 26)) dX6_clothLine_65 tf_6_43 (congrArg Prod.fst (rd_s0 k109)) (congrArg va_rf (rd_r0_6 k109)) ?_
                  refine z_iconst (1) dX6_clothLine_68 rfl ?_
                  refine z_ild (tkV T L (tkE T L (tkE T L p))) dX6_clothLine_69 (rd_s26 k109) (by decide) (by omega) (by omega) (((frm_r f107 (by omega))).trans K102n) ?_
                  have y117 := tv_b K102
                  refine e_aload_n dX6_clothLine_70 rfl ?_
                  refine e_get (.ref (y + 26)) dX6_clothLine_71 tf_6_43 (congrArg Prod.fst (rd_s0 k109)) (congrArg va_rf (rd_r0_6 k109)) ?_
                  refine z_iconst (2) dX6_clothLine_74 rfl ?_
                  refine z_ild (tkV T L (tkE T L (tkE T L (tkE T L p)))) dX6_clothLine_75 (rd_s26 k109) (by decide) (by omega) (by omega) K114n ?_
                  have y118 := tv_b K114
                  have SZ : rI h106 (y + 1) 5 = nc G := H111.1.2.2
                  refine e_callV [.int _, .int _, .int _] dX6_clothLine_76 tm_6_176 rfl (Nat.le_of_ble_eq_true rfl) (congrArg Prod.fst (rd_s1 k109)) (Nat.le_of_ble_eq_true rfl) (Nat.le_refl _) (Nat.le_refl _) rfl (zp_X2_addCloth (rd_fg1 k109) (nc G) (tkV T L (tkE T L p)) ⟨by omega, by omega⟩ (tkV T L (tkE T L (tkE T L p))) ⟨by omega, by omega⟩ (tkV T L (tkE T L (tkE T L (tkE T L p)))) ⟨by omega, by omega⟩ ⟨SZ, by omega, by omega⟩ (fun  h119 f120 p121 => ?_))
                  have k122 := lk_q (frm_s f120) k109
                  have H123 := rdT_c f120 (fun a k q => by omega) H110
                  have H124 := rdP_c f120 (fun a k q => by omega) K114p
                  have H125 := rdF_c f120 (fun a k q => by omega) K114f
                  have FR126 := frm_t FR112 (frm_m (S' := (fun a k => (a = y ∧ (k = 3 ∨ k = 4 ∨ (8 ≤ k ∧ k ≤ 11))) ∨ (y + 1 ≤ a ∧ a < y + 25) ∨ a = y + 26)) f120 (fun a k q => by omega))
                  have G1 : rwF h119 (y + 1) (clG G (tkV T L (tkE T L p)) (tkV T L (tkE T L (tkE T L p))) (tkV T L (tkE T L (tkE T L (tkE T L p))))) := rwF_cl pw H111 f120 p121
                  refine e_aload_n dX6_clothLine_79 rfl ?_
                  refine e_callV [] dX6_clothLine_80 tm_6_164 rfl (Nat.le_of_ble_eq_true rfl) (congrArg Prod.fst (rd_s0 k122)) (Nat.le_of_ble_eq_true rfl) (Nat.le_refl _) (Nat.le_refl _) rfl (zp_X6_takeStop k122 H123 H124 H125 (fun v127 p128 h129 f130 p131 => ?_))
                  have k132 := lk_q (frm_s f130) k122
                  have H133 := rdT_c f130 (fun a k q => by omega) H123
                  have H134 := rwF_c f130 (fun a k q1 q2 => by omega) G1
                  have FR135 := frm_t FR126 (frm_m (S' := (fun a k => (a = y ∧ (k = 3 ∨ k = 4 ∨ (8 ≤ k ∧ k ≤ 11))) ∨ (y + 1 ≤ a ∧ a < y + 25) ∨ a = y + 26)) f130 (fun a k q => by omega))
                  skip
                  refine z_bret dX6_clothLine_83 rfl (by omega) ⟨rfl, ?_⟩
                  rcases p131 with ⟨w, k5, P5, F5⟩ | ⟨w, k5, F5⟩
                  · exact kq _ (Or.inr w) _ FR135 (Or.inl ⟨w, ⟨K90, K102, K114, k5⟩, P5, F5, H134⟩)
                  · exact kq _ (Or.inl w) _ FR135 (Or.inr ⟨w, fun z => k5 z.2.2.2, by rw [xp_y K90, xp_y K102, xp_y K114]; exact F5⟩)
                · exfalso; omega
              · skip
                obtain ⟨k0, f0⟩ := tn_0 p108 (by omega)
                refine z_iconst (0) dX6_clothLine_46 rfl ?_
                refine z_bret dX6_clothLine_47 rfl (Or.inl rfl) ⟨rfl, ?_⟩
                exact kq 0 (Or.inl rfl) _ FR112 (Or.inr ⟨rfl, fun z => k0 z.2.2.1, by rw [xp_y K90, xp_y K102, xp_n k0]; exact f0⟩)
          · skip
            obtain ⟨k0, f0⟩ := tn_0 p96 (by omega)
            refine z_iconst (0) dX6_clothLine_46 rfl ?_
            refine z_bret dX6_clothLine_47 rfl (Or.inl rfl) ⟨rfl, ?_⟩
            exact kq 0 (Or.inl rfl) _ FR100 (Or.inr ⟨rfl, fun z => k0 z.2.1, by rw [xp_y K90, xp_n k0]; exact f0⟩)
      · skip
        obtain ⟨k0, f0⟩ := tn_0 p84 (by omega)
        refine z_iconst (0) dX6_clothLine_46 rfl ?_
        refine z_bret dX6_clothLine_47 rfl (Or.inl rfl) ⟨rfl, ?_⟩
        exact kq 0 (Or.inl rfl) _ FR88 (Or.inr ⟨rfl, fun z => k0 z.1, by rw [xp_n k0]; exact f0⟩)
set_option maxHeartbeats 4000000 in
theorem zp_X6_rivetLine {ad : mA} {dd : Nat} {h : mH} {Q : mQ} {y : Nat} {T G : Int → Int} {L p f q D U : Int} (hk : rdk h y) (HT : rdT h y T L) (HP : rdP h y T L p) (HF : rdF h y f q) (HG : rwF h (y + 1) G) (HB : rdB h y D U)   (pw : wfR G) (kq : ∀ v : Int, (v = 0 ∨ v = 1) → ∀ h1, frm (fun a k => (a = y ∧ (k = 3 ∨ k = 4 ∨ (8 ≤ k ∧ k ≤ 13))) ∨ (y + 1 ≤ a ∧ a < y + 25) ∨ a = y + 26) h h1 → (lnO h1 y T L [(0, 5), (0, 5)] (tkE T L p) (ntF False 3 f) (ntQ False (tkS T L p) f q) v (rwF h1 (y + 1) (if ((tkV T L (tkE T L p)) < 6 ∧ (tkV T L (tkE T L (tkE T L p))) < 6) then rivG G (tkV T L (tkE T L p)) (tkV T L (tkE T L (tkE T L p))) else G) ∧ rdB h1 y (if ((tkV T L (tkE T L p)) < 6 ∧ (tkV T L (tkE T L (tkE T L p))) < 6) then orZ D (shlZ 1 (tkV T L (tkE T L p))) else D) (if ((tkV T L (tkE T L p)) < 6 ∧ (tkV T L (tkE T L (tkE T L p))) < 6) then orZ U (shlZ 1 (tkV T L (tkE T L (tkE T L p)))) else U))) → Q (some (.int (zI v))) h1) : mCal TB0 ad (dd + 5) M_X6_rivetLine [.ref y] h 0 0 Q := by
  refine ⟨Nat.le_of_ble_eq_true rfl, ?_⟩
  show mEv TB0 ad M_X6_rivetLine (dd + 5) (0, 0) (mCal TB0 ad (dd + 4)) (fun v h' z => z.1 = 0 ∧ Q v h') 0 [some (.ref y)] [] h (0, 0)
  have FR0 : frm (fun a k => (a = y ∧ (k = 3 ∨ k = 4 ∨ (8 ≤ k ∧ k ≤ 13))) ∨ (y + 1 ≤ a ∧ a < y + 25) ∨ a = y + 26) h h := frm_0 h
  have wn1 := pw.1
  have wn2 := pw.2.1
  have wn3 := pw.2.2.1
  have w1 := HT.1
  have tb := tk_b (T := T) HP.1.1 HP.1.2
  have p0 := HP.1
  have bb := HB.2.2
  refine e_aload_n dX6_rivetLine_0 rfl ?_
  refine z_iconst (0) dX6_rivetLine_1 rfl ?_
  refine e_callV [.int _] dX6_rivetLine_2 tm_6_146 rfl (Nat.le_of_ble_eq_true rfl) (congrArg Prod.fst (rd_s0 hk)) (Nat.le_of_ble_eq_true rfl) (Nat.le_refl _) (Nat.le_refl _) rfl (zp_X6_beginLine hk HT HP HF False (fun  h1 f2 p3 p4 p5 => ?_))
  have k6 := lk_q (frm_s f2) hk
  have H7 := rdT_c f2 (fun a k q => by omega) HT
  have H8 := rwF_c f2 (fun a k q1 q2 => by omega) HG
  have H9 := rdB_c f2 (fun a k q => by omega) HB
  have FR10 := frm_t FR0 (frm_m (S' := (fun a k => (a = y ∧ (k = 3 ∨ k = 4 ∨ (8 ≤ k ∧ k ≤ 13))) ∨ (y + 1 ≤ a ∧ a < y + 25) ∨ a = y + 26)) f2 (fun a k q => by omega))
  skip
  refine e_aload_n dX6_rivetLine_5 rfl ?_
  refine z_iconst (0) dX6_rivetLine_6 rfl ?_
  refine z_iconst (0) dX6_rivetLine_7 rfl ?_
  refine z_iconst (5) dX6_rivetLine_8 rfl ?_
  refine e_callV [.int _, .int _, .int _] dX6_rivetLine_9 tm_6_156 rfl (Nat.le_of_ble_eq_true rfl) (congrArg Prod.fst (rd_s0 k6)) (Nat.le_of_ble_eq_true rfl) (Nat.le_refl _) (Nat.le_refl _) rfl (zp_X6_takeNumber k6 H7 p3 p4 0 ⟨by omega, by omega⟩ 0 ⟨by omega, by omega⟩ 5 ⟨by omega, by omega⟩ (by omega) (fun v11 p12 h13 f14 p15 => ?_))
  have k16 := lk_q (frm_s f14) k6
  have H17 := rdT_c f14 (fun a k q => by omega) H7
  have H18 := rwF_c f14 (fun a k q1 q2 => by omega) H8
  have H19 := rdB_c f14 (fun a k q => by omega) H9
  have FR20 := frm_t FR10 (frm_m (S' := (fun a k => (a = y ∧ (k = 3 ∨ k = 4 ∨ (8 ≤ k ∧ k ≤ 13))) ∨ (y + 1 ≤ a ∧ a < y + 25) ∨ a = y + 26)) f14 (fun a k q => by omega))
  skip
  refine z_if_eq 25 dX6_rivetLine_12 rfl ⟨by omega, by omega⟩ (fun c21 => ?_) (fun c21 => ?_)
  · skip
    obtain ⟨k0, f0⟩ := tn_0 p15 (by omega)
    refine z_iconst (0) dX6_rivetLine_25 rfl ?_
    refine z_bret dX6_rivetLine_26 rfl (Or.inl rfl) ⟨rfl, ?_⟩
    exact kq 0 (Or.inl rfl) _ FR20 (Or.inr ⟨rfl, fun z => k0 z.1, by rw [xp_n k0]; exact f0⟩)
  · skip
    obtain ⟨K22, K22p, K22f, K22n⟩ := tn_1 p15 (by omega)
    refine e_aload_n dX6_rivetLine_15 rfl ?_
    refine z_iconst (1) dX6_rivetLine_16 rfl ?_
    refine z_iconst (0) dX6_rivetLine_17 rfl ?_
    refine z_iconst (5) dX6_rivetLine_18 rfl ?_
    refine e_callV [.int _, .int _, .int _] dX6_rivetLine_19 tm_6_156 rfl (Nat.le_of_ble_eq_true rfl) (congrArg Prod.fst (rd_s0 k16)) (Nat.le_of_ble_eq_true rfl) (Nat.le_refl _) (Nat.le_refl _) rfl (zp_X6_takeNumber k16 H17 K22p K22f 1 ⟨by omega, by omega⟩ 0 ⟨by omega, by omega⟩ 5 ⟨by omega, by omega⟩ (by omega) (fun v23 p24 h25 f26 p27 => ?_))
    have k28 := lk_q (frm_s f26) k16
    have H29 := rdT_c f26 (fun a k q => by omega) H17
    have H30 := rwF_c f26 (fun a k q1 q2 => by omega) H18
    have H31 := rdB_c f26 (fun a k q => by omega) H19
    have FR32 := frm_t FR20 (frm_m (S' := (fun a k => (a = y ∧ (k = 3 ∨ k = 4 ∨ (8 ≤ k ∧ k ≤ 13))) ∨ (y + 1 ≤ a ∧ a < y + 25) ∨ a = y + 26)) f26 (fun a k q => by omega))
    skip
    refine z_if_ne 27 dX6_rivetLine_22 rfl ⟨by omega, by omega⟩ (fun c33 => ?_) (fun c33 => ?_)
    · skip
      obtain ⟨K34, K34p, K34f, K34n⟩ := tn_1 p27 (by omega)
      refine e_aload_n dX6_rivetLine_27 rfl ?_
      refine e_get (.ref (y + 26)) dX6_rivetLine_28 tf_6_43 (congrArg Prod.fst (rd_s0 k28)) (congrArg va_rf (rd_r0_6 k28)) ?_
      refine z_iconst (0) dX6_rivetLine_31 rfl ?_
      refine z_ild (tkV T L (tkE T L p)) dX6_rivetLine_32 (rd_s26 k28) (by decide) (by omega) (by omega) (((frm_r f26 (by omega))).trans K22n) ?_
      have y35 := tv_b K22
      refine z_bipush (6) dX6_rivetLine_33 rfl ?_
      refine z_icmp_ge 102 dX6_rivetLine_35 rfl ⟨by omega, by omega⟩ ⟨by omega, by omega⟩ (fun c36 => ?_) (fun c36 => ?_)
      · skip
        refine e_aload_n dX6_rivetLine_102 rfl ?_
        refine e_callV [] dX6_rivetLine_103 tm_6_164 rfl (Nat.le_of_ble_eq_true rfl) (congrArg Prod.fst (rd_s0 k28)) (Nat.le_of_ble_eq_true rfl) (Nat.le_refl _) (Nat.le_refl _) rfl (zp_X6_takeStop k28 H29 K34p K34f (fun v37 p38 h39 f40 p41 => ?_))
        have k42 := lk_q (frm_s f40) k28
        have H43 := rdT_c f40 (fun a k q => by omega) H29
        have H44 := rwF_c f40 (fun a k q1 q2 => by omega) H30
        have H45 := rdB_c f40 (fun a k q => by omega) H31
        have FR46 := frm_t FR32 (frm_m (S' := (fun a k => (a = y ∧ (k = 3 ∨ k = 4 ∨ (8 ≤ k ∧ k ≤ 13))) ∨ (y + 1 ≤ a ∧ a < y + 25) ∨ a = y + 26)) f40 (fun a k q => by omega))
        skip
        refine z_bret dX6_rivetLine_106 rfl (by omega) ⟨rfl, ?_⟩
        rcases p41 with ⟨w, k5, P5, F5⟩ | ⟨w, k5, F5⟩
        · exact kq _ (Or.inr w) _ FR46 (Or.inl ⟨w, ⟨K22, K34, k5⟩, P5, F5, ⟨by rw [if_neg (by omega)]; exact H44, by rw [if_neg (by omega), if_neg (by omega)]; exact H45⟩⟩)
        · exact kq _ (Or.inl w) _ FR46 (Or.inr ⟨w, fun z => k5 z.2.2, by rw [xp_y K22, xp_y K34]; exact F5⟩)
      · skip
        refine e_aload_n dX6_rivetLine_38 rfl ?_
        refine e_get (.ref (y + 26)) dX6_rivetLine_39 tf_6_43 (congrArg Prod.fst (rd_s0 k28)) (congrArg va_rf (rd_r0_6 k28)) ?_
        refine z_iconst (1) dX6_rivetLine_42 rfl ?_
        refine z_ild (tkV T L (tkE T L (tkE T L p))) dX6_rivetLine_43 (rd_s26 k28) (by decide) (by omega) (by omega) K34n ?_
        have y47 := tv_b K34
        refine z_bipush (6) dX6_rivetLine_44 rfl ?_
        refine z_icmp_ge 102 dX6_rivetLine_46 rfl ⟨by omega, by omega⟩ ⟨by omega, by omega⟩ (fun c48 => ?_) (fun c48 => ?_)
        · skip
          refine e_aload_n dX6_rivetLine_102 rfl ?_
          refine e_callV [] dX6_rivetLine_103 tm_6_164 rfl (Nat.le_of_ble_eq_true rfl) (congrArg Prod.fst (rd_s0 k28)) (Nat.le_of_ble_eq_true rfl) (Nat.le_refl _) (Nat.le_refl _) rfl (zp_X6_takeStop k28 H29 K34p K34f (fun v49 p50 h51 f52 p53 => ?_))
          have k54 := lk_q (frm_s f52) k28
          have H55 := rdT_c f52 (fun a k q => by omega) H29
          have H56 := rwF_c f52 (fun a k q1 q2 => by omega) H30
          have H57 := rdB_c f52 (fun a k q => by omega) H31
          have FR58 := frm_t FR32 (frm_m (S' := (fun a k => (a = y ∧ (k = 3 ∨ k = 4 ∨ (8 ≤ k ∧ k ≤ 13))) ∨ (y + 1 ≤ a ∧ a < y + 25) ∨ a = y + 26)) f52 (fun a k q => by omega))
          skip
          refine z_bret dX6_rivetLine_106 rfl (by omega) ⟨rfl, ?_⟩
          rcases p53 with ⟨w, k5, P5, F5⟩ | ⟨w, k5, F5⟩
          · exact kq _ (Or.inr w) _ FR58 (Or.inl ⟨w, ⟨K22, K34, k5⟩, P5, F5, ⟨by rw [if_neg (by omega)]; exact H56, by rw [if_neg (by omega), if_neg (by omega)]; exact H57⟩⟩)
          · exact kq _ (Or.inl w) _ FR58 (Or.inr ⟨w, fun z => k5 z.2.2, by rw [xp_y K22, xp_y K34]; exact F5⟩)
        · skip
          skip
          refine e_aload_n dX6_rivetLine_49 rfl ?_
          refine e_dup dX6_rivetLine_50 rfl ?_
          refine z_get D dX6_rivetLine_51 tf_6_62 (congrArg Prod.fst (rd_s0 k28)) (Or.inl rfl) H31.1 ?_
          have y59 := H31.2.2
          refine z_iconst (1) dX6_rivetLine_54 rfl ?_
          refine e_aload_n dX6_rivetLine_55 rfl ?_
          refine e_get (.ref (y + 26)) dX6_rivetLine_56 tf_6_43 (congrArg Prod.fst (rd_s0 k28)) (congrArg va_rf (rd_r0_6 k28)) ?_
          refine z_iconst (0) dX6_rivetLine_59 rfl ?_
          refine z_ild (tkV T L (tkE T L p)) dX6_rivetLine_60 (rd_s26 k28) (by decide) (by omega) (by omega) (((frm_r f26 (by omega))).trans K22n) ?_
          have y60 := tv_b K22
          refine z_ishl dX6_rivetLine_61 (by omega) (by omega) (by omega) (by omega) ?_
          have y61 := shlZ_b 1 (tkV T L (tkE T L p))
          refine z_ior dX6_rivetLine_62 (by omega) (by omega) (by omega) (by omega) ?_
          have y62 := orZ_b D (shlZ 1 (tkV T L (tkE T L p)))
          refine z_put dX6_rivetLine_63 tf_6_62 (congrArg Prod.fst (rd_s0 k28)) rfl (Or.inl rfl) (fun h63 e64 => ?_)
          have f65 := frm_1 e64
          have k66 := lk_q (frm_s f65) k28
          have H67 := rdT_c f65 (fun a k q => by omega) H29
          have H68 := rwF_c f65 (fun a k q1 q2 => by omega) H30
          have H69 := rdP_c f65 (fun a k q => by omega) K34p
          have H70 := rdF_c f65 (fun a k q => by omega) K34f
          have FR71 := frm_t FR32 (frm_m (S' := (fun a k => (a = y ∧ (k = 3 ∨ k = 4 ∨ (8 ≤ k ∧ k ≤ 13))) ∨ (y + 1 ≤ a ∧ a < y + 25) ∨ a = y + 26)) f65 (fun a k q => by omega))
          refine e_aload_n dX6_rivetLine_66 rfl ?_
          refine e_dup dX6_rivetLine_67 rfl ?_
          refine z_get U dX6_rivetLine_68 tf_6_65 (congrArg Prod.fst (rd_s0 k66)) (Or.inl rfl) (((frm_r f65 (by omega))).trans H31.2.1) ?_
          refine z_iconst (1) dX6_rivetLine_71 rfl ?_
          refine e_aload_n dX6_rivetLine_72 rfl ?_
          refine e_get (.ref (y + 26)) dX6_rivetLine_73 tf_6_43 (congrArg Prod.fst (rd_s0 k66)) (congrArg va_rf (rd_r0_6 k66)) ?_
          refine z_iconst (1) dX6_rivetLine_76 rfl ?_
          refine z_ild (tkV T L (tkE T L (tkE T L p))) dX6_rivetLine_77 (rd_s26 k66) (by decide) (by omega) (by omega) (((frm_r f65 (by omega))).trans K34n) ?_
          have y72 := tv_b K34
          refine z_ishl dX6_rivetLine_78 (by omega) (by omega) (by omega) (by omega) ?_
          have y73 := shlZ_b 1 (tkV T L (tkE T L (tkE T L p)))
          refine z_ior dX6_rivetLine_79 (by omega) (by omega) (by omega) (by omega) ?_
          have y74 := orZ_b U (shlZ 1 (tkV T L (tkE T L (tkE T L p))))
          refine z_put dX6_rivetLine_80 tf_6_65 (congrArg Prod.fst (rd_s0 k66)) rfl (Or.inl rfl) (fun h75 e76 => ?_)
          have f77 := frm_1 e76
          have k78 := lk_q (frm_s f77) k66
          have H79 := rdT_c f77 (fun a k q => by omega) H67
          have H80 := rwF_c f77 (fun a k q1 q2 => by omega) H68
          have H81 := rdP_c f77 (fun a k q => by omega) H69
          have H82 := rdF_c f77 (fun a k q => by omega) H70
          have FR83 := frm_t FR71 (frm_m (S' := (fun a k => (a = y ∧ (k = 3 ∨ k = 4 ∨ (8 ≤ k ∧ k ≤ 13))) ∨ (y + 1 ≤ a ∧ a < y + 25) ∨ a = y + 26)) f77 (fun a k q => by omega))
          refine e_aload_n dX6_rivetLine_83 rfl ?_
          refine e_get (.ref (y + 1)) dX6_rivetLine_84 tf_6_12 (congrArg Prod.fst (rd_s0 k78)) (congrArg va_rf (rd_r0_0 k78)) ?_
          refine e_aload_n dX6_rivetLine_87 rfl ?_
          refine e_get (.ref (y + 26)) dX6_rivetLine_88 tf_6_43 (congrArg Prod.fst (rd_s0 k78)) (congrArg va_rf (rd_r0_6 k78)) ?_
          refine z_iconst (0) dX6_rivetLine_91 rfl ?_
          refine z_ild (tkV T L (tkE T L p)) dX6_rivetLine_92 (rd_s26 k78) (by decide) (by omega) (by omega) ((((frm_r f77 (by omega)).trans ((frm_r f65 (by omega)).trans (frm_r f26 (by omega))))).trans K22n) ?_
          have y84 := tv_b K22
          refine e_aload_n dX6_rivetLine_93 rfl ?_
          refine e_get (.ref (y + 26)) dX6_rivetLine_94 tf_6_43 (congrArg Prod.fst (rd_s0 k78)) (congrArg va_rf (rd_r0_6 k78)) ?_
          refine z_iconst (1) dX6_rivetLine_97 rfl ?_
          refine z_ild (tkV T L (tkE T L (tkE T L p))) dX6_rivetLine_98 (rd_s26 k78) (by decide) (by omega) (by omega) ((((frm_r f77 (by omega)).trans (frm_r f65 (by omega)))).trans K34n) ?_
          have y85 := tv_b K34
          refine e_callV [.int _, .int _] dX6_rivetLine_99 tm_6_180 rfl (Nat.le_of_ble_eq_true rfl) (congrArg Prod.fst (rd_s1 k78)) (Nat.le_of_ble_eq_true rfl) (Nat.le_refl _) (Nat.le_refl _) rfl (zp_X2_join (rd_fg1 k78) H80 (tkV T L (tkE T L p)) ⟨by omega, by omega⟩ (tkV T L (tkE T L (tkE T L p))) ⟨by omega, by omega⟩ pw (by omega) (by omega) (fun  h86 f87 p88 => ?_))
          have k89 := lk_q (frm_s f87) k78
          have H90 := rdT_c f87 (fun a k q => by omega) H79
          have H91 := rdP_c f87 (fun a k q => by omega) H81
          have H92 := rdF_c f87 (fun a k q => by omega) H82
          have FR93 := frm_t FR83 (frm_m (S' := (fun a k => (a = y ∧ (k = 3 ∨ k = 4 ∨ (8 ≤ k ∧ k ≤ 13))) ∨ (y + 1 ≤ a ∧ a < y + 25) ∨ a = y + 26)) f87 (fun a k q => by omega))
          have B1 : rdB h86 y (orZ D (shlZ 1 (tkV T L (tkE T L p)))) (orZ U (shlZ 1 (tkV T L (tkE T L (tkE T L p))))) := ⟨(((frm_r f87 (by omega)).trans (frm_r f77 (by omega))).trans (rI_eq e64 ⟨by omega, by omega⟩)), ((frm_r f87 (by omega)).trans (rI_eq e76 ⟨by omega, by omega⟩)), or_b (by omega) (by omega), or_b (by omega) (by omega)⟩
          refine e_aload_n dX6_rivetLine_102 rfl ?_
          refine e_callV [] dX6_rivetLine_103 tm_6_164 rfl (Nat.le_of_ble_eq_true rfl) (congrArg Prod.fst (rd_s0 k89)) (Nat.le_of_ble_eq_true rfl) (Nat.le_refl _) (Nat.le_refl _) rfl (zp_X6_takeStop k89 H90 H91 H92 (fun v94 p95 h96 f97 p98 => ?_))
          have k99 := lk_q (frm_s f97) k89
          have H100 := rdT_c f97 (fun a k q => by omega) H90
          have H101 := rwF_c f97 (fun a k q1 q2 => by omega) p88
          have H102 := rdB_c f97 (fun a k q => by omega) B1
          have FR103 := frm_t FR93 (frm_m (S' := (fun a k => (a = y ∧ (k = 3 ∨ k = 4 ∨ (8 ≤ k ∧ k ≤ 13))) ∨ (y + 1 ≤ a ∧ a < y + 25) ∨ a = y + 26)) f97 (fun a k q => by omega))
          skip
          refine z_bret dX6_rivetLine_106 rfl (by omega) ⟨rfl, ?_⟩
          rcases p98 with ⟨w, k5, P5, F5⟩ | ⟨w, k5, F5⟩
          · exact kq _ (Or.inr w) _ FR103 (Or.inl ⟨w, ⟨K22, K34, k5⟩, P5, F5, ⟨by rw [if_pos ⟨by omega, by omega⟩]; exact H101, by rw [if_pos ⟨by omega, by omega⟩, if_pos ⟨by omega, by omega⟩]; exact H102⟩⟩)
          · exact kq _ (Or.inl w) _ FR103 (Or.inr ⟨w, fun z => k5 z.2.2, by rw [xp_y K22, xp_y K34]; exact F5⟩)
    · skip
      obtain ⟨k0, f0⟩ := tn_0 p27 (by omega)
      refine z_iconst (0) dX6_rivetLine_25 rfl ?_
      refine z_bret dX6_rivetLine_26 rfl (Or.inl rfl) ⟨rfl, ?_⟩
      exact kq 0 (Or.inl rfl) _ FR32 (Or.inr ⟨rfl, fun z => k0 z.2.1, by rw [xp_y K22, xp_n k0]; exact f0⟩)
