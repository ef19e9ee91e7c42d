/-! SHARE -/
theorem dX9_cutters_0 : decode cX9_cutters 0 = .ok (.iconst 0, 1) := by decide +kernel
theorem dX9_cutters_1 : decode cX9_cutters 1 = .ok (.istore_n 2, 1) := by decide +kernel
theorem dX9_cutters_2 : decode cX9_cutters 2 = .ok (.iconst 0, 1) := by decide +kernel
theorem dX9_cutters_3 : decode cX9_cutters 3 = .ok (.istore_n 3, 1) := by decide +kernel
theorem dX9_cutters_4 : decode cX9_cutters 4 = .ok (.iload_n 3, 1) := by decide +kernel
theorem dX9_cutters_5 : decode cX9_cutters 5 = .ok (.aload_n 0, 1) := by decide +kernel
theorem dX9_cutters_6 : decode cX9_cutters 6 = .ok (.getfield 82, 3) := by decide +kernel
theorem dX9_cutters_9 : decode cX9_cutters 9 = .ok (.getfield 86, 3) := by decide +kernel
theorem dX9_cutters_12 : decode cX9_cutters 12 = .ok (.if_icmp .ge 27, 3) := by decide +kernel
theorem dX9_cutters_15 : decode cX9_cutters 15 = .ok (.iload_n 2, 1) := by decide +kernel
theorem dX9_cutters_16 : decode cX9_cutters 16 = .ok (.aload_n 0, 1) := by decide +kernel
theorem dX9_cutters_17 : decode cX9_cutters 17 = .ok (.iload_n 3, 1) := by decide +kernel
theorem dX9_cutters_18 : decode cX9_cutters 18 = .ok (.iload_n 1, 1) := by decide +kernel
theorem dX9_cutters_19 : decode cX9_cutters 19 = .ok (.iconst 0, 1) := by decide +kernel
theorem dX9_cutters_20 : decode cX9_cutters 20 = .ok (.invokevirtual 64, 3) := by decide +kernel
theorem dX9_cutters_23 : decode cX9_cutters 23 = .ok (.ifCond .eq 7, 3) := by decide +kernel
theorem dX9_cutters_26 : decode cX9_cutters 26 = .ok (.iconst 1, 1) := by decide +kernel
theorem dX9_cutters_27 : decode cX9_cutters 27 = .ok (.goto 4, 3) := by decide +kernel
theorem dX9_cutters_30 : decode cX9_cutters 30 = .ok (.iconst 0, 1) := by decide +kernel
theorem dX9_cutters_31 : decode cX9_cutters 31 = .ok (.iadd, 1) := by decide +kernel
theorem dX9_cutters_32 : decode cX9_cutters 32 = .ok (.istore_n 2, 1) := by decide +kernel
theorem dX9_cutters_33 : decode cX9_cutters 33 = .ok (.iinc 3 1, 3) := by decide +kernel
theorem dX9_cutters_36 : decode cX9_cutters 36 = .ok (.goto (-32), 3) := by decide +kernel
theorem dX9_cutters_39 : decode cX9_cutters 39 = .ok (.iload_n 2, 1) := by decide +kernel
theorem dX9_cutters_40 : decode cX9_cutters 40 = .ok (.ireturn, 1) := by decide +kernel
theorem dX9_sharedPrices_0 : decode cX9_sharedPrices 0 = .ok (.iconst 0, 1) := by decide +kernel
theorem dX9_sharedPrices_1 : decode cX9_sharedPrices 1 = .ok (.istore_n 3, 1) := by decide +kernel
theorem dX9_sharedPrices_2 : decode cX9_sharedPrices 2 = .ok (.iconst 0, 1) := by decide +kernel
theorem dX9_sharedPrices_3 : decode cX9_sharedPrices 3 = .ok (.istore 4, 2) := by decide +kernel
theorem dX9_sharedPrices_5 : decode cX9_sharedPrices 5 = .ok (.iload 4, 2) := by decide +kernel
theorem dX9_sharedPrices_7 : decode cX9_sharedPrices 7 = .ok (.aload_n 1, 1) := by decide +kernel
theorem dX9_sharedPrices_8 : decode cX9_sharedPrices 8 = .ok (.getfield 56, 3) := by decide +kernel
theorem dX9_sharedPrices_11 : decode cX9_sharedPrices 11 = .ok (.if_icmp .ge 49, 3) := by decide +kernel
theorem dX9_sharedPrices_14 : decode cX9_sharedPrices 14 = .ok (.aload_n 1, 1) := by decide +kernel
theorem dX9_sharedPrices_15 : decode cX9_sharedPrices 15 = .ok (.iload 4, 2) := by decide +kernel
theorem dX9_sharedPrices_17 : decode cX9_sharedPrices 17 = .ok (.invokestatic 110, 3) := by decide +kernel
theorem dX9_sharedPrices_20 : decode cX9_sharedPrices 20 = .ok (.istore 5, 2) := by decide +kernel
theorem dX9_sharedPrices_22 : decode cX9_sharedPrices 22 = .ok (.iload 5, 2) := by decide +kernel
theorem dX9_sharedPrices_24 : decode cX9_sharedPrices 24 = .ok (.ifCond .le 30, 3) := by decide +kernel
theorem dX9_sharedPrices_27 : decode cX9_sharedPrices 27 = .ok (.aload_n 1, 1) := by decide +kernel
theorem dX9_sharedPrices_28 : decode cX9_sharedPrices 28 = .ok (.iload_n 2, 1) := by decide +kernel
theorem dX9_sharedPrices_29 : decode cX9_sharedPrices 29 = .ok (.iload 4, 2) := by decide +kernel
theorem dX9_sharedPrices_31 : decode cX9_sharedPrices 31 = .ok (.iconst 0, 1) := by decide +kernel
theorem dX9_sharedPrices_32 : decode cX9_sharedPrices 32 = .ok (.invokevirtual 64, 3) := by decide +kernel
theorem dX9_sharedPrices_35 : decode cX9_sharedPrices 35 = .ok (.ifCond .eq 19, 3) := by decide +kernel
theorem dX9_sharedPrices_38 : decode cX9_sharedPrices 38 = .ok (.iload_n 3, 1) := by decide +kernel
theorem dX9_sharedPrices_39 : decode cX9_sharedPrices 39 = .ok (.aload_n 1, 1) := by decide +kernel
theorem dX9_sharedPrices_40 : decode cX9_sharedPrices 40 = .ok (.getfield 75, 3) := by decide +kernel
theorem dX9_sharedPrices_43 : decode cX9_sharedPrices 43 = .ok (.iload 4, 2) := by decide +kernel
theorem dX9_sharedPrices_45 : decode cX9_sharedPrices 45 = .ok (.iaload, 1) := by decide +kernel
theorem dX9_sharedPrices_46 : decode cX9_sharedPrices 46 = .ok (.bipush 60, 2) := by decide +kernel
theorem dX9_sharedPrices_48 : decode cX9_sharedPrices 48 = .ok (.iload 5, 2) := by decide +kernel
theorem dX9_sharedPrices_50 : decode cX9_sharedPrices 50 = .ok (.idiv, 1) := by decide +kernel
theorem dX9_sharedPrices_51 : decode cX9_sharedPrices 51 = .ok (.imul, 1) := by decide +kernel
theorem dX9_sharedPrices_52 : decode cX9_sharedPrices 52 = .ok (.iadd, 1) := by decide +kernel
theorem dX9_sharedPrices_53 : decode cX9_sharedPrices 53 = .ok (.istore_n 3, 1) := by decide +kernel
theorem dX9_sharedPrices_54 : decode cX9_sharedPrices 54 = .ok (.iinc 4 1, 3) := by decide +kernel
theorem dX9_sharedPrices_57 : decode cX9_sharedPrices 57 = .ok (.goto (-52), 3) := by decide +kernel
theorem dX9_sharedPrices_60 : decode cX9_sharedPrices 60 = .ok (.iload_n 3, 1) := by decide +kernel
theorem dX9_sharedPrices_61 : decode cX9_sharedPrices 61 = .ok (.ireturn, 1) := by decide +kernel
theorem dX11_share_0 : decode cX11_share 0 = .ok (.aload_n 0, 1) := by decide +kernel
theorem dX11_share_1 : decode cX11_share 1 = .ok (.getfield 10, 3) := by decide +kernel
theorem dX11_share_4 : decode cX11_share 4 = .ok (.iload_n 1, 1) := by decide +kernel
theorem dX11_share_5 : decode cX11_share 5 = .ok (.invokevirtual 94, 3) := by decide +kernel
theorem dX11_share_8 : decode cX11_share 8 = .ok (.astore 4, 2) := by decide +kernel
theorem dX11_share_10 : decode cX11_share 10 = .ok (.aload 4, 2) := by decide +kernel
theorem dX11_share_12 : decode cX11_share 12 = .ok (.ifnull 13, 3) := by decide +kernel
theorem dX11_share_15 : decode cX11_share 15 = .ok (.aload 4, 2) := by decide +kernel
theorem dX11_share_17 : decode cX11_share 17 = .ok (.iload_n 2, 1) := by decide +kernel
theorem dX11_share_18 : decode cX11_share 18 = .ok (.invokevirtual 159, 3) := by decide +kernel
theorem dX11_share_21 : decode cX11_share 21 = .ok (.iconst (-1), 1) := by decide +kernel
theorem dX11_share_22 : decode cX11_share 22 = .ok (.if_icmp .ne 7, 3) := by decide +kernel
theorem dX11_share_25 : decode cX11_share 25 = .ok (.ldc2_w 189, 3) := by decide +kernel
theorem dX11_share_28 : decode cX11_share 28 = .ok (.lreturn, 1) := by decide +kernel
theorem dX11_share_29 : decode cX11_share 29 = .ok (.aload_n 0, 1) := by decide +kernel
theorem dX11_share_30 : decode cX11_share 30 = .ok (.getfield 51, 3) := by decide +kernel
theorem dX11_share_33 : decode cX11_share 33 = .ok (.aload 4, 2) := by decide +kernel
theorem dX11_share_35 : decode cX11_share 35 = .ok (.iload_n 2, 1) := by decide +kernel
theorem dX11_share_36 : decode cX11_share 36 = .ok (.invokevirtual 304, 3) := by decide +kernel
theorem dX11_share_39 : decode cX11_share 39 = .ok (.i2l, 1) := by decide +kernel
theorem dX11_share_40 : decode cX11_share 40 = .ok (.lstore 5, 2) := by decide +kernel
theorem dX11_share_42 : decode cX11_share 42 = .ok (.ldc2_w 307, 3) := by decide +kernel
theorem dX11_share_45 : decode cX11_share 45 = .ok (.lstore 7, 2) := by decide +kernel
theorem dX11_share_47 : decode cX11_share 47 = .ok (.iload_n 3, 1) := by decide +kernel
theorem dX11_share_48 : decode cX11_share 48 = .ok (.ifCond .eq 8, 3) := by decide +kernel
theorem dX11_share_51 : decode cX11_share 51 = .ok (.lload 7, 2) := by decide +kernel
theorem dX11_share_53 : decode cX11_share 53 = .ok (.goto 5, 3) := by decide +kernel
theorem dX11_share_56 : decode cX11_share 56 = .ok (.lload 5, 2) := by decide +kernel
theorem dX11_share_58 : decode cX11_share 58 = .ok (.lload 5, 2) := by decide +kernel
theorem dX11_share_60 : decode cX11_share 60 = .ok (.lload 7, 2) := by decide +kernel
theorem dX11_share_62 : decode cX11_share 62 = .ok (.invokestatic 206, 3) := by decide +kernel
theorem dX11_share_65 : decode cX11_share 65 = .ok (.ldiv, 1) := by decide +kernel
theorem dX11_share_66 : decode cX11_share 66 = .ok (.lreturn, 1) := by decide +kernel
theorem dX12_share_0 : decode cX12_share 0 = .ok (.aload_n 0, 1) := by decide +kernel
theorem dX12_share_1 : decode cX12_share 1 = .ok (.iconst 0, 1) := by decide +kernel
theorem dX12_share_2 : decode cX12_share 2 = .ok (.putfield 103, 3) := by decide +kernel
theorem dX12_share_5 : decode cX12_share 5 = .ok (.aload_n 0, 1) := by decide +kernel
theorem dX12_share_6 : decode cX12_share 6 = .ok (.iload_n 1, 1) := by decide +kernel
theorem dX12_share_7 : decode cX12_share 7 = .ok (.invokevirtual 292, 3) := by decide +kernel
theorem dX12_share_10 : decode cX12_share 10 = .ok (.ifCond .eq 19, 3) := by decide +kernel
theorem dX12_share_13 : decode cX12_share 13 = .ok (.aload_n 0, 1) := by decide +kernel
theorem dX12_share_14 : decode cX12_share 14 = .ok (.iload_n 2, 1) := by decide +kernel
theorem dX12_share_15 : decode cX12_share 15 = .ok (.invokevirtual 295, 3) := by decide +kernel
theorem dX12_share_18 : decode cX12_share 18 = .ok (.ifCond .eq 11, 3) := by decide +kernel
theorem dX12_share_21 : decode cX12_share 21 = .ok (.aload_n 0, 1) := by decide +kernel
theorem dX12_share_22 : decode cX12_share 22 = .ok (.iload_n 2, 1) := by decide +kernel
theorem dX12_share_23 : decode cX12_share 23 = .ok (.invokevirtual 286, 3) := by decide +kernel
theorem dX12_share_26 : decode cX12_share 26 = .ok (.ifCond .ne 7, 3) := by decide +kernel
theorem dX12_share_29 : decode cX12_share 29 = .ok (.ldc2_w 481, 3) := by decide +kernel
theorem dX12_share_32 : decode cX12_share 32 = .ok (.lreturn, 1) := by decide +kernel
theorem dX12_share_33 : decode cX12_share 33 = .ok (.lconst 0, 1) := by decide +kernel
theorem dX12_share_34 : decode cX12_share 34 = .ok (.lstore 4, 2) := by decide +kernel
theorem dX12_share_36 : decode cX12_share 36 = .ok (.iconst 0, 1) := by decide +kernel
theorem dX12_share_37 : decode cX12_share 37 = .ok (.istore 6, 2) := by decide +kernel
theorem dX12_share_39 : decode cX12_share 39 = .ok (.iload 6, 2) := by decide +kernel
theorem dX12_share_41 : decode cX12_share 41 = .ok (.aload_n 0, 1) := by decide +kernel
theorem dX12_share_42 : decode cX12_share 42 = .ok (.getfield 277, 3) := by decide +kernel
theorem dX12_share_45 : decode cX12_share 45 = .ok (.if_icmp .ge 88, 3) := by decide +kernel
theorem dX12_share_48 : decode cX12_share 48 = .ok (.iconst 0, 1) := by decide +kernel
theorem dX12_share_49 : decode cX12_share 49 = .ok (.istore 7, 2) := by decide +kernel
theorem dX12_share_51 : decode cX12_share 51 = .ok (.iconst 0, 1) := by decide +kernel
theorem dX12_share_52 : decode cX12_share 52 = .ok (.istore 8, 2) := by decide +kernel
theorem dX12_share_54 : decode cX12_share 54 = .ok (.iload 8, 2) := by decide +kernel
theorem dX12_share_56 : decode cX12_share 56 = .ok (.aload_n 0, 1) := by decide +kernel
theorem dX12_share_57 : decode cX12_share 57 = .ok (.getfield 271, 3) := by decide +kernel
theorem dX12_share_60 : decode cX12_share 60 = .ok (.if_icmp .ge 30, 3) := by decide +kernel
theorem dX12_share_63 : decode cX12_share 63 = .ok (.iload 7, 2) := by decide +kernel
theorem dX12_share_65 : decode cX12_share 65 = .ok (.aload_n 0, 1) := by decide +kernel
theorem dX12_share_66 : decode cX12_share 66 = .ok (.iload 8, 2) := by decide +kernel
theorem dX12_share_68 : decode cX12_share 68 = .ok (.iload 6, 2) := by decide +kernel
theorem dX12_share_70 : decode cX12_share 70 = .ok (.invokevirtual 334, 3) := by decide +kernel
theorem dX12_share_73 : decode cX12_share 73 = .ok (.ifCond .eq 7, 3) := by decide +kernel
theorem dX12_share_76 : decode cX12_share 76 = .ok (.iconst 1, 1) := by decide +kernel
theorem dX12_share_77 : decode cX12_share 77 = .ok (.goto 4, 3) := by decide +kernel
theorem dX12_share_80 : decode cX12_share 80 = .ok (.iconst 0, 1) := by decide +kernel
theorem dX12_share_81 : decode cX12_share 81 = .ok (.iadd, 1) := by decide +kernel
theorem dX12_share_82 : decode cX12_share 82 = .ok (.istore 7, 2) := by decide +kernel
theorem dX12_share_84 : decode cX12_share 84 = .ok (.iinc 8 1, 3) := by decide +kernel
theorem dX12_share_87 : decode cX12_share 87 = .ok (.goto (-33), 3) := by decide +kernel
theorem dX12_share_90 : decode cX12_share 90 = .ok (.lload 4, 2) := by decide +kernel
theorem dX12_share_92 : decode cX12_share 92 = .ok (.aload_n 0, 1) := by decide +kernel
theorem dX12_share_93 : decode cX12_share 93 = .ok (.iload_n 2, 1) := by decide +kernel
theorem dX12_share_94 : decode cX12_share 94 = .ok (.iload 6, 2) := by decide +kernel
theorem dX12_share_96 : decode cX12_share 96 = .ok (.invokevirtual 334, 3) := by decide +kernel
theorem dX12_share_99 : decode cX12_share 99 = .ok (.ifCond .eq 24, 3) := by decide +kernel
theorem dX12_share_102 : decode cX12_share 102 = .ok (.ldc2_w 553, 3) := by decide +kernel
theorem dX12_share_105 : decode cX12_share 105 = .ok (.iload 7, 2) := by decide +kernel
theorem dX12_share_107 : decode cX12_share 107 = .ok (.i2l, 1) := by decide +kernel
theorem dX12_share_108 : decode cX12_share 108 = .ok (.ldiv, 1) := by decide +kernel
theorem dX12_share_109 : decode cX12_share 109 = .ok (.aload_n 0, 1) := by decide +kernel
theorem dX12_share_110 : decode cX12_share 110 = .ok (.bipush 69, 2) := by decide +kernel
theorem dX12_share_112 : decode cX12_share 112 = .ok (.iload 6, 2) := by decide +kernel
theorem dX12_share_114 : decode cX12_share 114 = .ok (.iadd, 1) := by decide +kernel
theorem dX12_share_115 : decode cX12_share 115 = .ok (.invokevirtual 267, 3) := by decide +kernel
theorem dX12_share_118 : decode cX12_share 118 = .ok (.i2l, 1) := by decide +kernel
theorem dX12_share_119 : decode cX12_share 119 = .ok (.lmul, 1) := by decide +kernel
theorem dX12_share_120 : decode cX12_share 120 = .ok (.goto 4, 3) := by decide +kernel
theorem dX12_share_123 : decode cX12_share 123 = .ok (.lconst 0, 1) := by decide +kernel
theorem dX12_share_124 : decode cX12_share 124 = .ok (.ladd, 1) := by decide +kernel
theorem dX12_share_125 : decode cX12_share 125 = .ok (.lstore 4, 2) := by decide +kernel
theorem dX12_share_127 : decode cX12_share 127 = .ok (.iinc 6 1, 3) := by decide +kernel
theorem dX12_share_130 : decode cX12_share 130 = .ok (.goto (-91), 3) := by decide +kernel
theorem dX12_share_133 : decode cX12_share 133 = .ok (.iload_n 3, 1) := by decide +kernel
theorem dX12_share_134 : decode cX12_share 134 = .ok (.ifCond .eq 9, 3) := by decide +kernel
theorem dX12_share_137 : decode cX12_share 137 = .ok (.ldc2_w 553, 3) := by decide +kernel
theorem dX12_share_140 : decode cX12_share 140 = .ok (.goto 5, 3) := by decide +kernel
theorem dX12_share_143 : decode cX12_share 143 = .ok (.lload 4, 2) := by decide +kernel
theorem dX12_share_145 : decode cX12_share 145 = .ok (.ldc2_w 553, 3) := by decide +kernel
theorem dX12_share_148 : decode cX12_share 148 = .ok (.lload 4, 2) := by decide +kernel
theorem dX12_share_150 : decode cX12_share 150 = .ok (.invokestatic 491, 3) := by decide +kernel
theorem dX12_share_153 : decode cX12_share 153 = .ok (.ldiv, 1) := by decide +kernel
theorem dX12_share_154 : decode cX12_share 154 = .ok (.lreturn, 1) := by decide +kernel
theorem tf_9_75 : tFld TB0 9 75 = some (2, 3) := rfl
theorem tf_9_82 : tFld TB0 9 82 = some (2, 0) := rfl
theorem tf_9_86 : tFld TB0 9 86 = some (0, 5) := rfl
set_option maxRecDepth 20000 in
theorem tm_9_110 : tMet TB0 9 110 = some (1, M_X9_cutters) := rfl
set_option maxRecDepth 20000 in
theorem tm_11_159 : tMet TB0 11 159 = some (0, M_X2_upOf) := rfl
set_option maxRecDepth 20000 in
theorem tm_11_206 : tMet TB0 11 206 = some (1, M_X11_greatestDivisor) := rfl
set_option maxRecDepth 20000 in
theorem tm_11_304 : tMet TB0 11 304 = some (0, M_X9_sharedPrices) := rfl
set_option maxRecDepth 20000 in
theorem tm_12_491 : tMet TB0 12 491 = some (1, M_X12_common) := rfl
theorem tl_11_189 : tLdl TB0 11 189 = some (-1) := rfl
theorem tl_11_307 : tLdl TB0 11 307 = some (60) := rfl
theorem tl_12_481 : tLdl TB0 12 481 = some (-1) := rfl
theorem tl_12_553 : tLdl TB0 12 553 = some (60) := rfl
theorem opq_J {ad : mA} {B : Nat} {MX MM : mM} {A : List Value} (P : Sg → Int → Prop) (hu : ∀ σ r r', P σ r → P σ r' → r = r') (hx : ∀ (h : mH) (σ : Sg), bk h B → clsT h (B + 1) σ → ∀ Q : mQ, (∀ r h1, frm (fun a _ => B + 56 ≤ a ∧ a < B + 157) h h1 → P σ r → Q (some (.long (zJ r))) h1) → mCal TB0 ad 799 MX (.ref B :: A) h 0 0 Q) (hm : ∀ (h : mH) (σ : Sg), rk h (B + 157) → refT h (B + 157) 0 σ → ∀ Q : mQ, (∀ r h1, frm (fun a _ => a = B + 157 ∨ (B + 157 + 9 ≤ a ∧ a < B + 157 + 30)) h h1 → P σ r → Q (some (.long (zJ r))) h1) → mCal TB0 ad 799 MM (.ref (B + 157) :: A) h 0 0 Q) : opJ ad B (Inv B) MX MM A := by
  intro h I
  have I0 := I
  obtain ⟨i1, i2, i3, ⟨σ, c, r⟩, i5, i6⟩ := I
  refine ⟨0, 0, by omega, by omega, hx h σ i1 c _ (fun v h1 f p => ?_)⟩
  have i2' := rk_q f.1 i2
  have r' := refT_c f (fun a k x y q => by omega) r
  refine ⟨_, rfl, rk_s i2', hm h1 σ i2' r' _ (fun v' h2 f' p' => ?_)⟩
  rw [hu σ v' v p' p]
  exact ⟨rfl, Inv_q (frm_t (frm_m f (fun a k q => by unfold qset; omega)) (frm_m f' (fun a k q => by unfold qset; omega))) I0⟩
/-! SHARE -/
theorem sumZ_ge {f : Int → Int} {n : Nat} (h : ∀ i : Int, 0 ≤ i → i < n → 0 ≤ f i) {d : Int} (h0 : 0 ≤ d) (h1 : d < n) : f d ≤ sumZ f n := by
  induction n with
  | zero => omega
  | succ n ih =>
    show _ ≤ sumZ f n + f n
    have p := h n (by omega) (by omega)
    by_cases c : d < n
    · have := ih (fun i a b => h i a (by omega)) c
      omega
    · rw [show d = (n : Int) by omega]
      have := sumZ_b (f := f) (lo := 0) (hi := f n + 1000000000000) (n := 0) (fun i a b => by omega)
      have z : 0 ≤ sumZ f n := by
        clear ih p c h1
        induction n with
        | zero => exact Int.le_refl _
        | succ m ih2 =>
          show 0 ≤ sumZ f m + f m
          have a1 := ih2 (fun i a b => h i a (by omega))
          have a2 := h m (by omega) (by omega)
          omega
      omega
def cuN (g : Int → Int) (c : Int) : Int := sumZ (fun d => bZ (cutW g d c 0)) (nd g).toNat
theorem cuN_b {g : Int → Int} (w : wfB g) (c : Int) : 0 ≤ cuN g c ∧ cuN g c ≤ 6 := by
  have := sumB_b (fun d => cutW g d c 0) (nd g).toNat
  have n := wB_n w
  unfold cuN; omega
theorem cuN_p {g : Int → Int} {d c : Int} (h0 : 0 ≤ d) (h1 : d < nd g) (h : cutW g d c 0) : 1 ≤ cuN g c := by
  have := sumZ_ge (f := fun d => bZ (cutW g d c 0)) (n := (nd g).toNat) (fun i _ _ => bZ_lo _) h0 (by omega)
  have e : bZ (cutW g d c 0) = 1 := bZ_1 h
  unfold cuN
  omega
def shT (g : Int → Int) (d c : Int) : Int := if cutW g d c 0 then 60 / cuN g c * pr g c else 0
def shS (g : Int → Int) (d k : Int) : Int := sumZ (fun c => shT g d c) k.toNat
theorem shT_b {g : Int → Int} (w : wfF g) {d c : Int} (hc : 0 ≤ c ∧ c < nc g) (hd : 0 ≤ d ∧ d < nd g) : 0 ≤ shT g d c ∧ shT g d c ≤ 1200 := by
  have p := wC_c w.2.2 hc.1 hc.2
  unfold shT
  split
  · rename_i q
    have z := cuN_p hd.1 hd.2 q
    have z2 := cuN_b w.1 c
    have z3 : 0 ≤ 60 / cuN g c := Int.ediv_nonneg (by omega) (by omega)
    have z4 : 60 / cuN g c ≤ 60 := Int.ediv_le_self _ (by omega)
    refine ⟨Int.mul_nonneg z3 p.2.1.1, ?_⟩
    calc 60 / cuN g c * pr g c ≤ 60 * pr g c := Int.mul_le_mul_of_nonneg_right z4 p.2.1.1
      _ ≤ 1200 := by omega
  · omega
theorem shS_s {g : Int → Int} {d k : Int} (h : 0 ≤ k) : shS g d (k + 1) = shS g d k + shT g d k := sumZ_s h
theorem shS_b {g : Int → Int} (w : wfF g) {d k : Int} (hk : 0 ≤ k ∧ k ≤ nc g) (hd : 0 ≤ d ∧ d < nd g) : 0 ≤ shS g d k ∧ shS g d k ≤ 7200 := by
  have := sumZ_b (f := fun c => shT g d c) (lo := 0) (hi := 1200) (n := k.toNat) (fun i a b => shT_b w ⟨a, by omega⟩ hd)
  have n := w.2.2.1
  unfold shS; omega
def shV (g : Int → Int) (d : Int) (p : Prop) [Decidable p] : Int := if upv g d = -1 then -1 else (if p then 60 else shS g d (nc g)) / gcZ 60 (shS g d (nc g))
set_option maxHeartbeats 400000 in
theorem zp_X9_cutters {ad : mA} {dd : Nat} {h : mH} {Q : mQ} {f : Nat} {g : Int → Int} (hk : fgk h f) (HF : isF h f g)  (c : Int) (c_r : -2147483648 ≤ c ∧ c < 2147483648)  (kq : Q (some (.int (zI (cuN g c)))) h) : mCal TB0 ad (dd + 5) M_X9_cutters [.ref f, .int (zI c)] h 0 0 Q := by
  refine ⟨Nat.le_of_ble_eq_true rfl, ?_⟩
  show mEv TB0 ad M_X9_cutters (dd + 5) (0, 0) (mCal TB0 ad (dd + 4)) (fun v h' z => z.1 = 0 ∧ Q v h') 0 [some (.ref f), some (.int (zI c)), none, none] [] h (0, 0)
  have w1 := isF_n HF
  have w2 := isF_nd HF
  have w3 := isF_nu HF
  have w4 := isF_nc HF
  have W := isF_w HF
  refine z_iconst (0) dX9_cutters_0 rfl ?_
  refine e_istore_n (L' := [_, _, _, _]) dX9_cutters_1 (Nat.le_of_ble_eq_true rfl) rfl ?_
  refine z_iconst (0) dX9_cutters_2 rfl ?_
  refine e_istore_n (L' := [_, _, _, _]) dX9_cutters_3 (Nat.le_of_ble_eq_true rfl) rfl ?_
  have lp1 : ∀ (n1 : Nat) (n i : Int), (nd g - i).toNat = n1 → (0 ≤ i) → (i ≤ nd g) → (n = sumZ (fun d => bZ (cutW g d c 0)) i.toNat) → mEv TB0 ad M_X9_cutters (dd + 5) (0, 0) (mCal TB0 ad (dd + 4)) (fun v h' z => z.1 = 0 ∧ Q v h') 4 [some (.ref f), some (.int (zI c)), some (.int (zI n)), some (.int (zI i))] [] h (0, 0) := by
    intro n1
    induction n1 using Nat.strongRecOn with
    | ind n1 ih1 =>
    intro n i  hn1  I1 I2 I3
    refine e_iload_n dX9_cutters_4 rfl ?_
    refine e_aload_n dX9_cutters_5 rfl ?_
    refine e_get (.ref (f + 1)) dX9_cutters_6 tf_9_82 (congrArg Prod.fst (fg_s0 hk)) (congrArg va_rf (fg_r0_0 hk)) ?_
    refine z_get (nd g) dX9_cutters_9 tf_9_86 (congrArg Prod.fst (fg_s1 hk)) (Or.inl rfl) (isF_nd HF) ?_
    have y2 := isF_n HF
    refine z_icmp_ge 39 dX9_cutters_12 rfl ⟨by omega, by omega⟩ ⟨by omega, by omega⟩ (fun c3 => ?_) (fun c3 => ?_)
    · skip
      refine e_iload_n dX9_cutters_39 rfl ?_
      refine z_iret dX9_cutters_40 rfl ⟨rfl, ?_⟩
      refine z_q kq ?_
      rw [I3, show i = nd g by omega]; rfl
    · skip
      refine e_iload_n dX9_cutters_15 rfl ?_
      refine e_aload_n dX9_cutters_16 rfl ?_
      refine e_iload_n dX9_cutters_17 rfl ?_
      refine e_iload_n dX9_cutters_18 rfl ?_
      refine z_iconst (0) dX9_cutters_19 rfl ?_
      refine e_callV [.int _, .int _, .int _] dX9_cutters_20 tm_9_64 rfl (Nat.le_of_ble_eq_true rfl) (congrArg Prod.fst (fg_s0 hk)) (Nat.le_of_ble_eq_true rfl) (Nat.le_refl _) (Nat.le_refl _) rfl (zp_X2_cutsWorn hk HF i ⟨by omega, by omega⟩ c ⟨by omega, by omega⟩ 0 ⟨by omega, by omega⟩ (by omega) (by omega) ?_)
      refine z_ifb_eq 30 dX9_cutters_23 rfl (fun c4 => ?_) (fun c4 => ?_)
      · skip
        refine z_iconst (0) dX9_cutters_30 rfl ?_
        refine z_iadd dX9_cutters_31 ?_
        refine e_istore_n (L' := [_, _, _, _]) dX9_cutters_32 (Nat.le_of_ble_eq_true rfl) rfl ?_
        refine z_iinc (L' := [_, _, _, _]) dX9_cutters_33 rfl rfl ?_
        refine e_goto 4 dX9_cutters_36 rfl ?_
        exact ih1 _ (by omega) (n + 0) (i + 1)  rfl  (by omega) (by omega) (by rw [sumZ_s (by omega)]; first | (rw [bZ_1 (by assumption)]; omega) | (rw [bZ_0 (by assumption)]; omega))
      · skip
        refine z_iconst (1) dX9_cutters_26 rfl ?_
        refine e_goto 31 dX9_cutters_27 rfl ?_
        refine z_iadd dX9_cutters_31 ?_
        refine e_istore_n (L' := [_, _, _, _]) dX9_cutters_32 (Nat.le_of_ble_eq_true rfl) rfl ?_
        refine z_iinc (L' := [_, _, _, _]) dX9_cutters_33 rfl rfl ?_
        refine e_goto 4 dX9_cutters_36 rfl ?_
        exact ih1 _ (by omega) (n + 1) (i + 1)  rfl  (by omega) (by omega) (by rw [sumZ_s (by omega)]; first | (rw [bZ_1 (by assumption)]; omega) | (rw [bZ_0 (by assumption)]; omega))
  exact lp1 _ 0 0  rfl  (by omega) (by omega) rfl
set_option maxHeartbeats 400000 in
theorem zp_X9_sharedPrices {ad : mA} {dd : Nat} {h : mH} {Q : mQ} {y f : Nat} {g : Int → Int} (hk : fgk h f) (HF : isF h f g)  (d : Int) (d_r : -2147483648 ≤ d ∧ d < 2147483648) (p1 : 0 ≤ d ∧ d < nd g) (kq : Q (some (.int (zI (shS g d (nc g))))) h) : mCal TB0 ad (dd + 6) M_X9_sharedPrices [.ref y, .ref f, .int (zI d)] h 0 0 Q := by
  refine ⟨Nat.le_of_ble_eq_true rfl, ?_⟩
  show mEv TB0 ad M_X9_sharedPrices (dd + 6) (0, 0) (mCal TB0 ad (dd + 5)) (fun v h' z => z.1 = 0 ∧ Q v h') 0 [some (.ref y), some (.ref f), some (.int (zI d)), none, none, none] [] h (0, 0)
  have w1 := isF_n HF
  have w2 := isF_nd HF
  have w3 := isF_nu HF
  have w4 := isF_nc HF
  have W := isF_w HF
  refine z_iconst (0) dX9_sharedPrices_0 rfl ?_
  refine e_istore_n (L' := [_, _, _, _, _, _]) dX9_sharedPrices_1 (Nat.le_of_ble_eq_true rfl) rfl ?_
  refine z_iconst (0) dX9_sharedPrices_2 rfl ?_
  refine e_istore (L' := [_, _, _, _, _, _]) dX9_sharedPrices_3 (Nat.le_of_ble_eq_true rfl) rfl ?_
  have lp1 : ∀ (n1 : Nat) (n i : Int), (nc g - i).toNat = n1 → (0 ≤ i) → (i ≤ nc g) → (n = shS g d i) → mEv TB0 ad M_X9_sharedPrices (dd + 6) (0, 0) (mCal TB0 ad (dd + 5)) (fun v h' z => z.1 = 0 ∧ Q v h') 5 [some (.ref y), some (.ref f), some (.int (zI d)), some (.int (zI n)), some (.int (zI i)), none] [] h (0, 0) := by
    intro n1
    induction n1 using Nat.strongRecOn with
    | ind n1 ih1 =>
    intro n i  hn1  I1 I2 I3
    refine e_iload dX9_sharedPrices_5 rfl ?_
    refine e_aload_n dX9_sharedPrices_7 rfl ?_
    refine z_get (nc g) dX9_sharedPrices_8 tf_9_56 (congrArg Prod.fst (fg_s0 hk)) (Or.inl rfl) (isF_nc HF) ?_
    have y2 := isF_n HF
    refine z_icmp_ge 60 dX9_sharedPrices_11 rfl ⟨by omega, by omega⟩ ⟨by omega, by omega⟩ (fun c3 => ?_) (fun c3 => ?_)
    · skip
      refine e_iload_n dX9_sharedPrices_60 rfl ?_
      refine z_iret dX9_sharedPrices_61 rfl ⟨rfl, ?_⟩
      refine z_q kq ?_
      rw [I3, show i = nc g by omega]
    · skip
      refine e_aload_n dX9_sharedPrices_14 rfl ?_
      refine e_iload dX9_sharedPrices_15 rfl ?_
      refine e_callS [.ref _, .int _] dX9_sharedPrices_17 tm_9_110 rfl (Nat.le_of_ble_eq_true rfl) (Nat.le_refl _) (Nat.le_refl _) rfl (zp_X9_cutters hk HF i ⟨by omega, by omega⟩ ?_)
      have y4 := cuN_b (isF_w HF).1 i
      refine e_istore (L' := [_, _, _, _, _, _]) dX9_sharedPrices_20 (Nat.le_of_ble_eq_true rfl) rfl ?_
      refine e_iload dX9_sharedPrices_22 rfl ?_
      refine z_if_le 54 dX9_sharedPrices_24 rfl ⟨by omega, by omega⟩ (fun c5 => ?_) (fun c5 => ?_)
      · skip
        refine z_iinc (L' := [_, _, _, _, _, _]) dX9_sharedPrices_54 rfl rfl ?_
        refine e_goto 5 dX9_sharedPrices_57 rfl ?_
        exact mEv_wk (by exact ⟨Or.inr rfl, Or.inr rfl, Or.inr rfl, Or.inr rfl, Or.inr rfl, Or.inl rfl, trivial⟩) (ih1 _ (by omega) n (i + 1)  rfl  (by omega) (by omega) (by rw [shS_s (by omega)]; unfold shT; first | (rw [if_pos (by assumption), Int.mul_comm (60 / cuN g i)]; omega) | (rw [if_neg (by assumption)]; omega) | (rw [if_neg (fun q => absurd (cuN_p (by omega) (by omega) q) (by omega))]; omega)))
      · skip
        refine e_aload_n dX9_sharedPrices_27 rfl ?_
        refine e_iload_n dX9_sharedPrices_28 rfl ?_
        refine e_iload dX9_sharedPrices_29 rfl ?_
        refine z_iconst (0) dX9_sharedPrices_31 rfl ?_
        refine e_callV [.int _, .int _, .int _] dX9_sharedPrices_32 tm_9_64 rfl (Nat.le_of_ble_eq_true rfl) (congrArg Prod.fst (fg_s0 hk)) (Nat.le_of_ble_eq_true rfl) (Nat.le_refl _) (Nat.le_refl _) rfl (zp_X2_cutsWorn hk HF d ⟨by omega, by omega⟩ i ⟨by omega, by omega⟩ 0 ⟨by omega, by omega⟩ (by omega) (by omega) ?_)
        refine z_ifb_eq 54 dX9_sharedPrices_35 rfl (fun c6 => ?_) (fun c6 => ?_)
        · skip
          refine z_iinc (L' := [_, _, _, _, _, _]) dX9_sharedPrices_54 rfl rfl ?_
          refine e_goto 5 dX9_sharedPrices_57 rfl ?_
          exact mEv_wk (by exact ⟨Or.inr rfl, Or.inr rfl, Or.inr rfl, Or.inr rfl, Or.inr rfl, Or.inl rfl, trivial⟩) (ih1 _ (by omega) n (i + 1)  rfl  (by omega) (by omega) (by rw [shS_s (by omega)]; unfold shT; first | (rw [if_pos (by assumption), Int.mul_comm (60 / cuN g i)]; omega) | (rw [if_neg (by assumption)]; omega) | (rw [if_neg (fun q => absurd (cuN_p (by omega) (by omega) q) (by omega))]; omega)))
        · skip
          refine e_iload_n dX9_sharedPrices_38 rfl ?_
          refine e_aload_n dX9_sharedPrices_39 rfl ?_
          refine e_get (.ref (f + 14)) dX9_sharedPrices_40 tf_9_75 (congrArg Prod.fst (fg_s0 hk)) (congrArg va_rf (fg_r0_3 hk)) ?_
          refine e_iload dX9_sharedPrices_43 rfl ?_
          refine z_ild (pr g i) dX9_sharedPrices_45 (fg_s14 hk) (by decide) (by omega) (by omega) (isF_pr HF (by omega) (by omega)) ?_
          have y7 := wC_c (isF_w HF).2.2 (show 0 ≤ i by omega) (by omega)
          refine z_bipush (60) dX9_sharedPrices_46 rfl ?_
          refine e_iload dX9_sharedPrices_48 rfl ?_
          refine z_idiv dX9_sharedPrices_50 (by omega) (by omega) (by omega) (by omega) ?_
          refine z_imul dX9_sharedPrices_51 ?_
          refine z_iadd dX9_sharedPrices_52 ?_
          refine e_istore_n (L' := [_, _, _, _, _, _]) dX9_sharedPrices_53 (Nat.le_of_ble_eq_true rfl) rfl ?_
          refine z_iinc (L' := [_, _, _, _, _, _]) dX9_sharedPrices_54 rfl rfl ?_
          refine e_goto 5 dX9_sharedPrices_57 rfl ?_
          exact mEv_wk (by exact ⟨Or.inr rfl, Or.inr rfl, Or.inr rfl, Or.inr rfl, Or.inr rfl, Or.inl rfl, trivial⟩) (ih1 _ (by omega) (n + ((pr g i) * (60 / (cuN g i)))) (i + 1)  rfl  (by omega) (by omega) (by rw [shS_s (by omega)]; unfold shT; first | (rw [if_pos (by assumption), Int.mul_comm (60 / cuN g i)]; omega) | (rw [if_neg (by assumption)]; omega) | (rw [if_neg (fun q => absurd (cuN_p (by omega) (by omega) q) (by omega))]; omega)))
  exact lp1 _ 0 0  rfl  (by omega) (by omega) rfl
set_option maxHeartbeats 400000 in
theorem zp_X11_share_in {ad : mA} {dd : Nat} {h : mH} {Q : mQ} {x : Nat} {σ : Sg} (hk : bk h x) (HX : clsT h (x + 1) σ)  (f : Int) (f_r : -2147483648 ≤ f ∧ f < 2147483648) (d : Int) (d_r : -2147483648 ≤ d ∧ d < 2147483648) (p : Prop) [Decidable p] (p1 : 0 ≤ f) (p2 : f < cn σ 0) (kq : Q (some (.long (zJ (shV (sG σ f) d p)))) h) : mCal TB0 ad (dd + 7) M_X11_share [.ref x, .int (zI f), .int (zI d), .int (zI (bZ p))] h 0 0 Q := by
  refine ⟨Nat.le_of_ble_eq_true rfl, ?_⟩
  show mEv TB0 ad M_X11_share (dd + 7) (0, 0) (mCal TB0 ad (dd + 6)) (fun v h' z => z.1 = 0 ∧ Q v h') 0 [some (.ref x), some (.int (zI f)), some (.int (zI d)), some (.int (zI (bZ p))), none, none, none, none, none] [] h (0, 0)
  have w1 := wS_n (clsT_w HX)
  refine e_aload_n dX11_share_0 rfl ?_
  refine e_get (.ref (x + 1)) dX11_share_1 tf_11_10 (congrArg Prod.fst (bk_s0 hk)) (congrArg va_rf (bk_r0_0 hk)) ?_
  refine e_iload_n dX11_share_4 rfl ?_
  refine e_callV [.int _] dX11_share_5 tm_11_94 rfl (Nat.le_of_ble_eq_true rfl) (congrArg Prod.fst (bk_s1 hk)) (Nat.le_of_ble_eq_true rfl) (Nat.le_refl _) (Nat.le_refl _) rfl (zp_X8_forgeAt_in (bk_td1 hk) HX f ⟨by omega, by omega⟩ (by omega) (by omega) ?_)
  have k1 := fAt_k (bk_td1 hk) f
  have H2 := clsT_F HX (show 0 ≤ f by omega) (by omega)
  have y3 := fAt_b (x + 1) f
  refine e_astore (L' := [_, _, _, _, _, _, _, _, _]) dX11_share_8 (Nat.le_of_ble_eq_true rfl) rfl ?_
  refine e_aload dX11_share_10 rfl ?_
  refine e_ifnull 25 dX11_share_12 rfl ?_
  have v1 := isF_n H2
  refine e_aload dX11_share_15 rfl ?_
  refine e_iload_n dX11_share_17 rfl ?_
  refine e_callV [.int _] dX11_share_18 tm_11_159 rfl (Nat.le_of_ble_eq_true rfl) (congrArg Prod.fst (fg_s0 k1)) (Nat.le_of_ble_eq_true rfl) (Nat.le_refl _) (Nat.le_refl _) rfl (zp_X2_upOf k1 H2 d ⟨by omega, by omega⟩ ?_)
  have y4 := upv_s (isF_w H2) d
  refine z_iconst (-1) dX11_share_21 rfl ?_
  refine z_icmp_ne 29 dX11_share_22 rfl ⟨by omega, by omega⟩ ⟨by omega, by omega⟩ (fun c5 => ?_) (fun c5 => ?_)
  · skip
    refine e_aload_n dX11_share_29 rfl ?_
    refine e_get (.ref (x + 146)) dX11_share_30 tf_11_51 (congrArg Prod.fst (bk_s0 hk)) (congrArg va_rf (bk_r0_6 hk)) ?_
    refine e_aload dX11_share_33 rfl ?_
    refine e_iload_n dX11_share_35 rfl ?_
    refine e_callV [.ref _, .int _] dX11_share_36 tm_11_304 rfl (Nat.le_of_ble_eq_true rfl) (congrArg Prod.fst (bk_s146 hk)) (Nat.le_of_ble_eq_true rfl) (Nat.le_refl _) (Nat.le_refl _) rfl (zp_X9_sharedPrices k1 H2 d ⟨by omega, by omega⟩ (by omega) ?_)
    have sb := shS_b ((clsT_w HX).2.2.1 f p1 p2) (d := d) (k := nc (sG σ f)) (by have := ((clsT_w HX).2.2.1 f p1 p2).2.2.1; omega) (by omega)
    refine z_i2l dX11_share_39 ⟨by omega, by omega⟩ ?_
    refine e_lstore (L' := [_, _, _, _, _, _, _, _, _]) dX11_share_40 (Nat.le_of_ble_eq_true rfl) rfl ?_
    refine z_ldc2 (60) dX11_share_42 tl_11_307 rfl ?_
    refine e_lstore (L' := [_, _, _, _, _, _, _, _, _]) dX11_share_45 (Nat.le_of_ble_eq_true rfl) rfl ?_
    refine e_iload_n dX11_share_47 rfl ?_
    refine z_ifb_eq 56 dX11_share_48 rfl (fun c6 => ?_) (fun c6 => ?_)
    · skip
      refine e_lload dX11_share_56 rfl ?_
      refine e_lload dX11_share_58 rfl ?_
      refine e_lload dX11_share_60 rfl ?_
      refine e_callS [.long _, .long _] dX11_share_62 tm_11_206 rfl (Nat.le_of_ble_eq_true rfl) (Nat.le_refl _) (Nat.le_refl _) rfl (zp_X11_greatestDivisor_60 (shS (sG σ f) d (nc (sG σ f))) 60 (by omega) (by omega) ?_)
      have gp := gcZ_p (a := 60) (b := shS (sG σ f) d (nc (sG σ f))) (by omega)
      refine z_ldiv dX11_share_65 (by omega) (by omega) (by omega) (by omega) ?_
      refine z_lret dX11_share_66 rfl ⟨rfl, ?_⟩
      refine z_qJ kq ?_
      unfold shV; first | (rw [if_pos (by omega)]) | (rw [if_neg (by omega), if_pos (by assumption)]) | (rw [if_neg (by omega), if_neg (by assumption)])
    · skip
      refine e_lload dX11_share_51 rfl ?_
      refine e_goto 58 dX11_share_53 rfl ?_
      refine e_lload dX11_share_58 rfl ?_
      refine e_lload dX11_share_60 rfl ?_
      refine e_callS [.long _, .long _] dX11_share_62 tm_11_206 rfl (Nat.le_of_ble_eq_true rfl) (Nat.le_refl _) (Nat.le_refl _) rfl (zp_X11_greatestDivisor_60 (shS (sG σ f) d (nc (sG σ f))) 60 (by omega) (by omega) ?_)
      have gp := gcZ_p (a := 60) (b := shS (sG σ f) d (nc (sG σ f))) (by omega)
      refine z_ldiv dX11_share_65 (by omega) (by omega) (by omega) (by omega) ?_
      refine z_lret dX11_share_66 rfl ⟨rfl, ?_⟩
      refine z_qJ kq ?_
      unfold shV; first | (rw [if_pos (by omega)]) | (rw [if_neg (by omega), if_pos (by assumption)]) | (rw [if_neg (by omega), if_neg (by assumption)])
  · skip
    refine z_ldc2 (-1) dX11_share_25 tl_11_189 rfl ?_
    refine z_lret dX11_share_28 rfl ⟨rfl, ?_⟩
    refine z_qJ kq ?_
    unfold shV; first | (rw [if_pos (by omega)]) | (rw [if_neg (by omega), if_pos (by assumption)]) | (rw [if_neg (by omega), if_neg (by assumption)])
set_option maxHeartbeats 400000 in
theorem zp_X11_share_out {ad : mA} {dd : Nat} {h : mH} {Q : mQ} {x : Nat} {σ : Sg} (hk : bk h x) (HX : clsT h (x + 1) σ)  (f : Int) (f_r : -2147483648 ≤ f ∧ f < 2147483648) (d : Int) (d_r : -2147483648 ≤ d ∧ d < 2147483648) (p : Prop) [Decidable p] (p1 : ¬ (0 ≤ f ∧ f < cn σ 0)) (kq : Q (some (.long (zJ (-1)))) h) : mCal TB0 ad (dd + 7) M_X11_share [.ref x, .int (zI f), .int (zI d), .int (zI (bZ p))] h 0 0 Q := by
  refine ⟨Nat.le_of_ble_eq_true rfl, ?_⟩
  show mEv TB0 ad M_X11_share (dd + 7) (0, 0) (mCal TB0 ad (dd + 6)) (fun v h' z => z.1 = 0 ∧ Q v h') 0 [some (.ref x), some (.int (zI f)), some (.int (zI d)), some (.int (zI (bZ p))), none, none, none, none, none] [] h (0, 0)
  have w1 := wS_n (clsT_w HX)
  refine e_aload_n dX11_share_0 rfl ?_
  refine e_get (.ref (x + 1)) dX11_share_1 tf_11_10 (congrArg Prod.fst (bk_s0 hk)) (congrArg va_rf (bk_r0_0 hk)) ?_
  refine e_iload_n dX11_share_4 rfl ?_
  refine e_callV [.int _] dX11_share_5 tm_11_94 rfl (Nat.le_of_ble_eq_true rfl) (congrArg Prod.fst (bk_s1 hk)) (Nat.le_of_ble_eq_true rfl) (Nat.le_refl _) (Nat.le_refl _) rfl (zp_X8_forgeAt_out (bk_td1 hk) HX f ⟨by omega, by omega⟩ (by omega) ?_)
  refine e_astoreN (L' := [_, _, _, _, _, _, _, _, _]) dX11_share_8 (Nat.le_of_ble_eq_true rfl) rfl ?_
  refine e_aloadN dX11_share_10 rfl ?_
  refine e_ifnullN 25 dX11_share_12 rfl ?_
  refine z_ldc2 (-1) dX11_share_25 tl_11_189 rfl ?_
  refine z_lret dX11_share_28 rfl ⟨rfl, ?_⟩
  refine z_qJ kq ?_
  rfl
set_option maxHeartbeats 2000000 in
theorem zp_X12_share_in {ad : mA} {dd : Nat} {h : mH} {Q : mQ} {m : Nat} {σ : Sg} (hk : rk h m) (HR : refT h m 0 σ)  (f : Int) (f_r : -2147483648 ≤ f ∧ f < 2147483648) (d : Int) (d_r : -2147483648 ≤ d ∧ d < 2147483648) (p : Prop) [Decidable p] (p1 : 0 ≤ f) (p2 : f < cn σ 0) (kq : ∀ h1, frm (fun a i => a = m ∨ (m + 9 ≤ a ∧ a < m + 30)) h h1 → Q (some (.long (zJ (shV (sG σ f) d p)))) h1) : mCal TB0 ad (dd + 5) M_X12_share [.ref m, .int (zI f), .int (zI d), .int (zI (bZ p))] h 0 0 Q := by
  refine ⟨Nat.le_of_ble_eq_true rfl, ?_⟩
  show mEv TB0 ad M_X12_share (dd + 5) (0, 0) (mCal TB0 ad (dd + 4)) (fun v h' z => z.1 = 0 ∧ Q v h') 0 [some (.ref m), some (.int (zI f)), some (.int (zI d)), some (.int (zI (bZ p))), none, none, none, none, none] [] h (0, 0)
  have FR0 : frm (fun a i => a = m ∨ (m + 9 ≤ a ∧ a < m + 30)) h h := frm_0 h
  have w1 := wS_n (refT_w HR)
  refine e_aload_n dX12_share_0 rfl ?_
  refine z_iconst (0) dX12_share_1 rfl ?_
  refine z_put dX12_share_2 tf_12_103 (rk_s hk) rfl (Or.inl rfl) (fun h1 e2 => ?_)
  have f3 := frm_1 e2
  have k4 := rk_q (frm_s f3) hk
  have H5 := refT_c f3 (fun a k q1 q2 => by omega) HR
  have FR6 := frm_t FR0 (frm_m (S' := (fun a i => a = m ∨ (m + 9 ≤ a ∧ a < m + 30))) f3 (fun a k q => by omega))
  refine e_aload_n dX12_share_5 rfl ?_
  refine e_iload_n dX12_share_6 rfl ?_
  refine e_callV [.int _] dX12_share_7 tm_12_292 rfl (Nat.le_of_ble_eq_true rfl) (rk_s k4) (Nat.le_of_ble_eq_true rfl) (Nat.le_refl _) (Nat.le_refl _) rfl (zp_X12_hand_in k4 H5 f ⟨by omega, by omega⟩ (by omega) (by omega) (fun  h7 f8 p9 p10 p11 p12 => ?_))
  have k13 := rk_q (frm_s f8) k4
  have H14 := refT_c f8 (fun a k q1 q2 => by omega) H5
  have FR15 := frm_t FR6 (frm_m (S' := (fun a i => a = m ∨ (m + 9 ≤ a ∧ a < m + 30))) f8 (fun a k q => by omega))
  have w5 := rB_n p9
  have w6 := rC_n p11
  refine z_ifb_eq 29 dX12_share_10 rfl (fun c16 => ?_) (fun c16 => ?_)
  · exact absurd trivial c16
  · skip
    refine e_aload_n dX12_share_13 rfl ?_
    refine e_iload_n dX12_share_14 rfl ?_
    refine e_callV [.int _] dX12_share_15 tm_12_295 rfl (Nat.le_of_ble_eq_true rfl) (rk_s k13) (Nat.le_of_ble_eq_true rfl) (Nat.le_refl _) (Nat.le_refl _) rfl (zp_X12_isDown k13 p9 d ⟨by omega, by omega⟩ ?_)
    refine z_ifb_eq 29 dX12_share_18 rfl (fun c17 => ?_) (fun c17 => ?_)
    · skip
      refine z_ldc2 (-1) dX12_share_29 tl_12_481 rfl ?_
      refine z_lret dX12_share_32 rfl ⟨rfl, ?_⟩
      refine z_qJ (kq _ FR15) ?_
      unfold shV; first | (rw [if_pos (by have z := upv_s ((refT_w HR).2.2.1 f p1 p2) d; omega)]) | (rw [if_neg (by omega), if_pos (by assumption), I3, show i = nc (sG σ f) by omega]) | (rw [if_neg (by omega), if_neg (by assumption), I3, show i = nc (sG σ f) by omega])
    · skip
      refine e_aload_n dX12_share_21 rfl ?_
      refine e_iload_n dX12_share_22 rfl ?_
      refine e_callV [.int _] dX12_share_23 tm_12_286 rfl (Nat.le_of_ble_eq_true rfl) (rk_s k13) (Nat.le_of_ble_eq_true rfl) (Nat.le_refl _) (Nat.le_refl _) rfl (zp_X12_isPaired k13 p10 d ⟨by omega, by omega⟩ (by omega) (by omega) ?_)
      have y18 := wM_d (rM_w p10) (show 0 ≤ d by omega) (by omega)
      refine z_ifb_ne 33 dX12_share_26 rfl (fun c19 => ?_) (fun c19 => ?_)
      · skip
        have u1 := upv_in (g := (sG σ f)) (d := d) (by omega) (by omega)
        refine z_lconst (0) dX12_share_33 rfl ?_
        refine e_lstore (L' := [_, _, _, _, _, _, _, _, _]) dX12_share_34 (Nat.le_of_ble_eq_true rfl) rfl ?_
        refine z_iconst (0) dX12_share_36 rfl ?_
        refine e_istore (L' := [_, _, _, _, _, _, _, _, _]) dX12_share_37 (Nat.le_of_ble_eq_true rfl) rfl ?_
        have lp20 : ∀ (n20 : Nat) (u i : Int), (nc (sG σ f) - i).toNat = n20 → (0 ≤ i) → (i ≤ nc (sG σ f)) → (u = shS (sG σ f) d i) → mEv TB0 ad M_X12_share (dd + 5) (0, 0) (mCal TB0 ad (dd + 4)) (fun v h' z => z.1 = 0 ∧ Q v h') 39 [some (.ref m), some (.int (zI f)), some (.int (zI d)), some (.int (zI (bZ p))), some (.long (zJ u)), none, some (.int (zI i)), none, none] [] h7 (0, 0) := by
          intro n20
          induction n20 using Nat.strongRecOn with
          | ind n20 ih20 =>
          intro u i  hn20  I1 I2 I3
          refine e_iload dX12_share_39 rfl ?_
          refine e_aload_n dX12_share_41 rfl ?_
          refine z_get (nc (sG σ f)) dX12_share_42 tf_12_277 (rk_s k13) (Or.inl rfl) (rC_nc p11) ?_
          have y21 := rC_n p11
          refine z_icmp_ge 133 dX12_share_45 rfl ⟨by omega, by omega⟩ ⟨by omega, by omega⟩ (fun c22 => ?_) (fun c22 => ?_)
          · skip
            have sb := shS_b ((refT_w HR).2.2.1 f p1 p2) (d := d) (k := i) (by omega) (by omega)
            refine e_iload_n dX12_share_133 rfl ?_
            refine z_ifb_eq 143 dX12_share_134 rfl (fun c23 => ?_) (fun c23 => ?_)
            · skip
              refine e_lload dX12_share_143 rfl ?_
              refine z_ldc2 (60) dX12_share_145 tl_12_553 rfl ?_
              refine e_lload dX12_share_148 rfl ?_
              refine e_callS [.long _, .long _] dX12_share_150 tm_12_491 rfl (Nat.le_of_ble_eq_true rfl) (Nat.le_refl _) (Nat.le_refl _) rfl (zp_X12_common 60 u (by omega) (by omega) ?_)
              have gp := gcZ_p (a := 60) (b := u) (by omega)
              refine z_ldiv dX12_share_153 (by omega) (by omega) (by omega) (by omega) ?_
              refine z_lret dX12_share_154 rfl ⟨rfl, ?_⟩
              refine z_qJ (kq _ FR15) ?_
              unfold shV; first | (rw [if_pos (by have z := upv_s ((refT_w HR).2.2.1 f p1 p2) d; omega)]) | (rw [if_neg (by omega), if_pos (by assumption), I3, show i = nc (sG σ f) by omega]) | (rw [if_neg (by omega), if_neg (by assumption), I3, show i = nc (sG σ f) by omega])
            · skip
              refine z_ldc2 (60) dX12_share_137 tl_12_553 rfl ?_
              refine e_goto 145 dX12_share_140 rfl ?_
              refine z_ldc2 (60) dX12_share_145 tl_12_553 rfl ?_
              refine e_lload dX12_share_148 rfl ?_
              refine e_callS [.long _, .long _] dX12_share_150 tm_12_491 rfl (Nat.le_of_ble_eq_true rfl) (Nat.le_refl _) (Nat.le_refl _) rfl (zp_X12_common 60 u (by omega) (by omega) ?_)
              have gp := gcZ_p (a := 60) (b := u) (by omega)
              refine z_ldiv dX12_share_153 (by omega) (by omega) (by omega) (by omega) ?_
              refine z_lret dX12_share_154 rfl ⟨rfl, ?_⟩
              refine z_qJ (kq _ FR15) ?_
              unfold shV; first | (rw [if_pos (by have z := upv_s ((refT_w HR).2.2.1 f p1 p2) d; omega)]) | (rw [if_neg (by omega), if_pos (by assumption), I3, show i = nc (sG σ f) by omega]) | (rw [if_neg (by omega), if_neg (by assumption), I3, show i = nc (sG σ f) by omega])
          · skip
            have sb := shS_b ((refT_w HR).2.2.1 f p1 p2) (d := d) (k := i) (by omega) (by omega)
            refine z_iconst (0) dX12_share_48 rfl ?_
            refine e_istore (L' := [_, _, _, _, _, _, _, _, _]) dX12_share_49 (Nat.le_of_ble_eq_true rfl) rfl ?_
            refine z_iconst (0) dX12_share_51 rfl ?_
            refine e_istore (L' := [_, _, _, _, _, _, _, _, _]) dX12_share_52 (Nat.le_of_ble_eq_true rfl) rfl ?_
            have lp24 : ∀ (n24 : Nat) (n j : Int), (nd (sG σ f) - j).toNat = n24 → (0 ≤ j) → (j ≤ nd (sG σ f)) → (n = sumZ (fun d => bZ (cutW (sG σ f) d i 0)) j.toNat) → (0 ≤ n ∧ n ≤ j) → mEv TB0 ad M_X12_share (dd + 5) (0, 0) (mCal TB0 ad (dd + 4)) (fun v h' z => z.1 = 0 ∧ Q v h') 54 [some (.ref m), some (.int (zI f)), some (.int (zI d)), some (.int (zI (bZ p))), some (.long (zJ u)), none, some (.int (zI i)), some (.int (zI n)), some (.int (zI j))] [] h7 (0, 0) := by
              intro n24
              induction n24 using Nat.strongRecOn with
              | ind n24 ih24 =>
              intro n j  hn24  J1 J2 J3 J4
              refine e_iload dX12_share_54 rfl ?_
              refine e_aload_n dX12_share_56 rfl ?_
              refine z_get (nd (sG σ f)) dX12_share_57 tf_12_271 (rk_s k13) (Or.inl rfl) (rB_nd p9) ?_
              have y25 := rB_n p9
              refine z_icmp_ge 90 dX12_share_60 rfl ⟨by omega, by omega⟩ ⟨by omega, by omega⟩ (fun c26 => ?_) (fun c26 => ?_)
              · skip
                refine e_lload dX12_share_90 rfl ?_
                refine e_aload_n dX12_share_92 rfl ?_
                refine e_iload_n dX12_share_93 rfl ?_
                refine e_iload dX12_share_94 rfl ?_
                refine e_callV [.int _, .int _] dX12_share_96 tm_12_334 rfl (Nat.le_of_ble_eq_true rfl) (rk_s k13) (Nat.le_of_ble_eq_true rfl) (Nat.le_refl _) (Nat.le_refl _) rfl (zp_X12_cuts k13 p9 p10 p11 d ⟨by omega, by omega⟩ i ⟨by omega, by omega⟩ (by omega) (by omega) ?_)
                refine z_ifb_eq 123 dX12_share_99 rfl (fun c27 => ?_) (fun c27 => ?_)
                · skip
                  refine z_lconst (0) dX12_share_123 rfl ?_
                  refine z_ladd dX12_share_124 ?_
                  refine e_lstore (L' := [_, _, _, _, _, _, _, _, _]) dX12_share_125 (Nat.le_of_ble_eq_true rfl) rfl ?_
                  refine z_iinc (L' := [_, _, _, _, _, _, _, _, _]) dX12_share_127 rfl rfl ?_
                  refine e_goto 39 dX12_share_130 rfl ?_
                  exact mEv_wk (by exact ⟨Or.inr rfl, Or.inr rfl, Or.inr rfl, Or.inr rfl, Or.inr rfl, Or.inl rfl, Or.inr rfl, Or.inl rfl, Or.inl rfl, trivial⟩) (ih20 _ (by omega) (u + 0) (i + 1)  rfl  (by omega) (by omega) (by rw [shS_s (by omega)]; unfold shT; first | (rw [if_pos (by assumption), eP, show cuN (sG σ f) i = n by rw [J3, show j = nd (sG σ f) by omega]; rfl]; omega) | (rw [if_neg (by assumption)]; omega)))
                · skip
                  have np : 1 ≤ n := by have z := cuN_p (g := (sG σ f)) (d := d) (c := i) (by omega) (by omega) (by assumption); rw [show cuN (sG σ f) i = n by rw [J3, show j = nd (sG σ f) by omega]; rfl] at z; exact z
                  refine z_ldc2 (60) dX12_share_102 tl_12_553 rfl ?_
                  refine e_iload dX12_share_105 rfl ?_
                  refine z_i2l dX12_share_107 ⟨by omega, by omega⟩ ?_
                  refine z_ldiv dX12_share_108 (by omega) (by omega) (by omega) (by omega) ?_
                  refine e_aload_n dX12_share_109 rfl ?_
                  refine z_bipush (69) dX12_share_110 rfl ?_
                  refine e_iload dX12_share_112 rfl ?_
                  refine z_iadd dX12_share_114 ?_
                  have v5 := rC_f p11
                  have eP := rC_pr p11 (i := i) (by omega) (by omega)
                  have v6 := wC_c ((refT_w HR).2.2.1 f p1 p2).2.2 (c := i) (by omega) (by omega)
                  refine e_callV [.int _] dX12_share_115 tm_12_267 rfl (Nat.le_of_ble_eq_true rfl) (rk_s k13) (Nat.le_of_ble_eq_true rfl) (Nat.le_refl _) (Nat.le_refl _) rfl (zp_X12_of k13 (69 + i) ⟨by omega, by omega⟩ (by omega) (by omega) ?_)
                  refine z_i2l dX12_share_118 ⟨by omega, by omega⟩ ?_
                  refine z_lmul dX12_share_119 ?_
                  refine e_goto 124 dX12_share_120 rfl ?_
                  refine z_ladd dX12_share_124 ?_
                  refine e_lstore (L' := [_, _, _, _, _, _, _, _, _]) dX12_share_125 (Nat.le_of_ble_eq_true rfl) rfl ?_
                  refine z_iinc (L' := [_, _, _, _, _, _, _, _, _]) dX12_share_127 rfl rfl ?_
                  refine e_goto 39 dX12_share_130 rfl ?_
                  exact mEv_wk (by exact ⟨Or.inr rfl, Or.inr rfl, Or.inr rfl, Or.inr rfl, Or.inr rfl, Or.inl rfl, Or.inr rfl, Or.inl rfl, Or.inl rfl, trivial⟩) (ih20 _ (by omega) (u + ((60 / n) * (rI h7 (m + 6) (81 * rI h7 m 23 + (69 + i))))) (i + 1)  rfl  (by omega) (by omega) (by rw [shS_s (by omega)]; unfold shT; first | (rw [if_pos (by assumption), eP, show cuN (sG σ f) i = n by rw [J3, show j = nd (sG σ f) by omega]; rfl]; omega) | (rw [if_neg (by assumption)]; omega)))
              · skip
                refine e_iload dX12_share_63 rfl ?_
                refine e_aload_n dX12_share_65 rfl ?_
                refine e_iload dX12_share_66 rfl ?_
                refine e_iload dX12_share_68 rfl ?_
                refine e_callV [.int _, .int _] dX12_share_70 tm_12_334 rfl (Nat.le_of_ble_eq_true rfl) (rk_s k13) (Nat.le_of_ble_eq_true rfl) (Nat.le_refl _) (Nat.le_refl _) rfl (zp_X12_cuts k13 p9 p10 p11 j ⟨by omega, by omega⟩ i ⟨by omega, by omega⟩ (by omega) (by omega) ?_)
                refine z_ifb_eq 80 dX12_share_73 rfl (fun c28 => ?_) (fun c28 => ?_)
                · skip
                  refine z_iconst (0) dX12_share_80 rfl ?_
                  refine z_iadd dX12_share_81 ?_
                  refine e_istore (L' := [_, _, _, _, _, _, _, _, _]) dX12_share_82 (Nat.le_of_ble_eq_true rfl) rfl ?_
                  refine z_iinc (L' := [_, _, _, _, _, _, _, _, _]) dX12_share_84 rfl rfl ?_
                  refine e_goto 54 dX12_share_87 rfl ?_
                  exact ih24 _ (by omega) (n + 0) (j + 1)  rfl  (by omega) (by omega) (by rw [sumZ_s (by omega)]; first | (rw [bZ_1 (by assumption)]; omega) | (rw [bZ_0 (by assumption)]; omega)) (by omega)
                · skip
                  refine z_iconst (1) dX12_share_76 rfl ?_
                  refine e_goto 81 dX12_share_77 rfl ?_
                  refine z_iadd dX12_share_81 ?_
                  refine e_istore (L' := [_, _, _, _, _, _, _, _, _]) dX12_share_82 (Nat.le_of_ble_eq_true rfl) rfl ?_
                  refine z_iinc (L' := [_, _, _, _, _, _, _, _, _]) dX12_share_84 rfl rfl ?_
                  refine e_goto 54 dX12_share_87 rfl ?_
                  exact ih24 _ (by omega) (n + 1) (j + 1)  rfl  (by omega) (by omega) (by rw [sumZ_s (by omega)]; first | (rw [bZ_1 (by assumption)]; omega) | (rw [bZ_0 (by assumption)]; omega)) (by omega)
            exact lp24 _ 0 0  rfl  (by omega) (by omega) rfl (by omega)
        exact lp20 _ 0 0  rfl  (by omega) (by omega) rfl
      · skip
        refine z_ldc2 (-1) dX12_share_29 tl_12_481 rfl ?_
        refine z_lret dX12_share_32 rfl ⟨rfl, ?_⟩
        refine z_qJ (kq _ FR15) ?_
        unfold shV; first | (rw [if_pos (by have z := upv_s ((refT_w HR).2.2.1 f p1 p2) d; omega)]) | (rw [if_neg (by omega), if_pos (by assumption), I3, show i = nc (sG σ f) by omega]) | (rw [if_neg (by omega), if_neg (by assumption), I3, show i = nc (sG σ f) by omega])
set_option maxHeartbeats 400000 in
theorem zp_X12_share_out {ad : mA} {dd : Nat} {h : mH} {Q : mQ} {m : Nat} {σ : Sg} (hk : rk h m) (HR : refT h m 0 σ)  (f : Int) (f_r : -2147483648 ≤ f ∧ f < 2147483648) (d : Int) (d_r : -2147483648 ≤ d ∧ d < 2147483648) (p : Prop) [Decidable p] (p1 : ¬ (0 ≤ f ∧ f < cn σ 0)) (kq : ∀ h1, frm (fun a i => a = m ∨ (m + 9 ≤ a ∧ a < m + 30)) h h1 → Q (some (.long (zJ (-1)))) h1) : mCal TB0 ad (dd + 5) M_X12_share [.ref m, .int (zI f), .int (zI d), .int (zI (bZ p))] h 0 0 Q := by
  refine ⟨Nat.le_of_ble_eq_true rfl, ?_⟩
  show mEv TB0 ad M_X12_share (dd + 5) (0, 0) (mCal TB0 ad (dd + 4)) (fun v h' z => z.1 = 0 ∧ Q v h') 0 [some (.ref m), some (.int (zI f)), some (.int (zI d)), some (.int (zI (bZ p))), none, none, none, none, none] [] h (0, 0)
  have FR0 : frm (fun a i => a = m ∨ (m + 9 ≤ a ∧ a < m + 30)) h h := frm_0 h
  have w1 := wS_n (refT_w HR)
  refine e_aload_n dX12_share_0 rfl ?_
  refine z_iconst (0) dX12_share_1 rfl ?_
  refine z_put dX12_share_2 tf_12_103 (rk_s hk) rfl (Or.inl rfl) (fun h1 e2 => ?_)
  have f3 := frm_1 e2
  have k4 := rk_q (frm_s f3) hk
  have H5 := refT_c f3 (fun a k q1 q2 => by omega) HR
  have FR6 := frm_t FR0 (frm_m (S' := (fun a i => a = m ∨ (m + 9 ≤ a ∧ a < m + 30))) f3 (fun a k q => by omega))
  refine e_aload_n dX12_share_5 rfl ?_
  refine e_iload_n dX12_share_6 rfl ?_
  refine e_callV [.int _] dX12_share_7 tm_12_292 rfl (Nat.le_of_ble_eq_true rfl) (rk_s k4) (Nat.le_of_ble_eq_true rfl) (Nat.le_refl _) (Nat.le_refl _) rfl (zp_X12_hand_out k4 H5 f ⟨by omega, by omega⟩ (by omega) ?_)
  refine z_ifb_eq 29 dX12_share_10 rfl (fun c7 => ?_) (fun c7 => ?_)
  · skip
    refine z_ldc2 (-1) dX12_share_29 tl_12_481 rfl ?_
    refine z_lret dX12_share_32 rfl ⟨rfl, ?_⟩
    exact kq _ FR6
  · exfalso; exact c7
theorem op30 {ad : mA} {B : Nat} : op_30 ad B (Inv B) := by
  intro a b bb hb
  rw [← zI_toInt a]
  rw [← zI_toInt b]
  rw [bb_z hb]
  have ra := in_of a
  generalize a.toInt = a at *
  have rb := in_of b
  generalize b.toInt = b at *
  refine opq_J (ansF a (-1) (fun g r => r = shV g b (bb = 1))) (ansF_u (fun g r r' x y => x.trans y.symm)) (fun h σ hk HX Q kq => ?_) (fun h σ hr HR Q kq => ?_)
  · by_cases q : 0 ≤ a ∧ a < cn σ 0
    · exact zp_X11_share_in hk HX a ra b rb (bb = 1) q.1 q.2 (kq _ _ (frm_0 h) (Or.inl ⟨q.1, q.2, rfl⟩))
    · exact zp_X11_share_out hk HX a ra b rb (bb = 1) q (kq _ _ (frm_0 h) (Or.inr ⟨q, rfl⟩))
  · by_cases q : 0 ≤ a ∧ a < cn σ 0
    · exact zp_X12_share_in hr HR a ra b rb (bb = 1) q.1 q.2 (fun h1 f => kq _ h1 f (Or.inl ⟨q.1, q.2, rfl⟩))
    · exact zp_X12_share_out hr HR a ra b rb (bb = 1) q (fun h1 f => kq _ _ f (Or.inr ⟨q, rfl⟩))
