/-! TEXT: the reference's tokens -/
theorem dX12_see_0 : decode cX12_see 0 = .ok (.aload_n 0, 1) := by decide +kernel
theorem dX12_see_1 : decode cX12_see 1 = .ok (.getfield 123, 3) := by decide +kernel
theorem dX12_see_4 : decode cX12_see 4 = .ok (.aload_n 0, 1) := by decide +kernel
theorem dX12_see_5 : decode cX12_see 5 = .ok (.getfield 126, 3) := by decide +kernel
theorem dX12_see_8 : decode cX12_see 8 = .ok (.if_icmp .ge 19, 3) := by decide +kernel
theorem dX12_see_11 : decode cX12_see 11 = .ok (.aload_n 0, 1) := by decide +kernel
theorem dX12_see_12 : decode cX12_see 12 = .ok (.getfield 7, 3) := by decide +kernel
theorem dX12_see_15 : decode cX12_see 15 = .ok (.aload_n 0, 1) := by decide +kernel
theorem dX12_see_16 : decode cX12_see 16 = .ok (.getfield 123, 3) := by decide +kernel
theorem dX12_see_19 : decode cX12_see 19 = .ok (.baload, 1) := by decide +kernel
theorem dX12_see_20 : decode cX12_see 20 = .ok (.sipush 255, 3) := by decide +kernel
theorem dX12_see_23 : decode cX12_see 23 = .ok (.iand, 1) := by decide +kernel
theorem dX12_see_24 : decode cX12_see 24 = .ok (.goto 4, 3) := by decide +kernel
theorem dX12_see_27 : decode cX12_see 27 = .ok (.iconst (-1), 1) := by decide +kernel
theorem dX12_see_28 : decode cX12_see 28 = .ok (.ireturn, 1) := by decide +kernel
theorem dX12_token_0 : decode cX12_token 0 = .ok (.aload_n 0, 1) := by decide +kernel
theorem dX12_token_1 : decode cX12_token 1 = .ok (.invokevirtual 129, 3) := by decide +kernel
theorem dX12_token_4 : decode cX12_token 4 = .ok (.bipush 10, 2) := by decide +kernel
theorem dX12_token_6 : decode cX12_token 6 = .ok (.if_icmp .eq 12, 3) := by decide +kernel
theorem dX12_token_9 : decode cX12_token 9 = .ok (.aload_n 0, 1) := by decide +kernel
theorem dX12_token_10 : decode cX12_token 10 = .ok (.invokevirtual 129, 3) := by decide +kernel
theorem dX12_token_13 : decode cX12_token 13 = .ok (.bipush 32, 2) := by decide +kernel
theorem dX12_token_15 : decode cX12_token 15 = .ok (.if_icmp .ne 16, 3) := by decide +kernel
theorem dX12_token_18 : decode cX12_token 18 = .ok (.aload_n 0, 1) := by decide +kernel
theorem dX12_token_19 : decode cX12_token 19 = .ok (.dup, 1) := by decide +kernel
theorem dX12_token_20 : decode cX12_token 20 = .ok (.getfield 123, 3) := by decide +kernel
theorem dX12_token_23 : decode cX12_token 23 = .ok (.iconst 1, 1) := by decide +kernel
theorem dX12_token_24 : decode cX12_token 24 = .ok (.iadd, 1) := by decide +kernel
theorem dX12_token_25 : decode cX12_token 25 = .ok (.putfield 123, 3) := by decide +kernel
theorem dX12_token_28 : decode cX12_token 28 = .ok (.goto (-28), 3) := by decide +kernel
theorem dX12_token_31 : decode cX12_token 31 = .ok (.aload_n 0, 1) := by decide +kernel
theorem dX12_token_32 : decode cX12_token 32 = .ok (.aload_n 0, 1) := by decide +kernel
theorem dX12_token_33 : decode cX12_token 33 = .ok (.getfield 123, 3) := by decide +kernel
theorem dX12_token_36 : decode cX12_token 36 = .ok (.putfield 133, 3) := by decide +kernel
theorem dX12_token_39 : decode cX12_token 39 = .ok (.aload_n 0, 1) := by decide +kernel
theorem dX12_token_40 : decode cX12_token 40 = .ok (.invokevirtual 129, 3) := by decide +kernel
theorem dX12_token_43 : decode cX12_token 43 = .ok (.istore_n 1, 1) := by decide +kernel
theorem dX12_token_44 : decode cX12_token 44 = .ok (.aload_n 0, 1) := by decide +kernel
theorem dX12_token_45 : decode cX12_token 45 = .ok (.lconst 0, 1) := by decide +kernel
theorem dX12_token_46 : decode cX12_token 46 = .ok (.putfield 136, 3) := by decide +kernel
theorem dX12_token_49 : decode cX12_token 49 = .ok (.iconst 0, 1) := by decide +kernel
theorem dX12_token_50 : decode cX12_token 50 = .ok (.istore_n 2, 1) := by decide +kernel
theorem dX12_token_51 : decode cX12_token 51 = .ok (.iload_n 1, 1) := by decide +kernel
theorem dX12_token_52 : decode cX12_token 52 = .ok (.ifCond .ge 11, 3) := by decide +kernel
theorem dX12_token_55 : decode cX12_token 55 = .ok (.aload_n 0, 1) := by decide +kernel
theorem dX12_token_56 : decode cX12_token 56 = .ok (.iconst 0, 1) := by decide +kernel
theorem dX12_token_57 : decode cX12_token 57 = .ok (.putfield 140, 3) := by decide +kernel
theorem dX12_token_60 : decode cX12_token 60 = .ok (.goto 206, 3) := by decide +kernel
theorem dX12_token_63 : decode cX12_token 63 = .ok (.iload_n 1, 1) := by decide +kernel
theorem dX12_token_64 : decode cX12_token 64 = .ok (.bipush 97, 2) := by decide +kernel
theorem dX12_token_66 : decode cX12_token 66 = .ok (.bipush 122, 2) := by decide +kernel
theorem dX12_token_68 : decode cX12_token 68 = .ok (.invokestatic 115, 3) := by decide +kernel
theorem dX12_token_71 : decode cX12_token 71 = .ok (.ifCond .eq 76, 3) := by decide +kernel
theorem dX12_token_74 : decode cX12_token 74 = .ok (.aload_n 0, 1) := by decide +kernel
theorem dX12_token_75 : decode cX12_token 75 = .ok (.invokevirtual 129, 3) := by decide +kernel
theorem dX12_token_78 : decode cX12_token 78 = .ok (.bipush 97, 2) := by decide +kernel
theorem dX12_token_80 : decode cX12_token 80 = .ok (.bipush 122, 2) := by decide +kernel
theorem dX12_token_82 : decode cX12_token 82 = .ok (.invokestatic 115, 3) := by decide +kernel
theorem dX12_token_85 : decode cX12_token 85 = .ok (.ifCond .eq 36, 3) := by decide +kernel
theorem dX12_token_88 : decode cX12_token 88 = .ok (.aload_n 0, 1) := by decide +kernel
theorem dX12_token_89 : decode cX12_token 89 = .ok (.aload_n 0, 1) := by decide +kernel
theorem dX12_token_90 : decode cX12_token 90 = .ok (.getfield 136, 3) := by decide +kernel
theorem dX12_token_93 : decode cX12_token 93 = .ok (.bipush 8, 2) := by decide +kernel
theorem dX12_token_95 : decode cX12_token 95 = .ok (.lshl, 1) := by decide +kernel
theorem dX12_token_96 : decode cX12_token 96 = .ok (.aload_n 0, 1) := by decide +kernel
theorem dX12_token_97 : decode cX12_token 97 = .ok (.invokevirtual 129, 3) := by decide +kernel
theorem dX12_token_100 : decode cX12_token 100 = .ok (.i2l, 1) := by decide +kernel
theorem dX12_token_101 : decode cX12_token 101 = .ok (.lor, 1) := by decide +kernel
theorem dX12_token_102 : decode cX12_token 102 = .ok (.putfield 136, 3) := by decide +kernel
theorem dX12_token_105 : decode cX12_token 105 = .ok (.aload_n 0, 1) := by decide +kernel
theorem dX12_token_106 : decode cX12_token 106 = .ok (.dup, 1) := by decide +kernel
theorem dX12_token_107 : decode cX12_token 107 = .ok (.getfield 123, 3) := by decide +kernel
theorem dX12_token_110 : decode cX12_token 110 = .ok (.iconst 1, 1) := by decide +kernel
theorem dX12_token_111 : decode cX12_token 111 = .ok (.iadd, 1) := by decide +kernel
theorem dX12_token_112 : decode cX12_token 112 = .ok (.putfield 123, 3) := by decide +kernel
theorem dX12_token_115 : decode cX12_token 115 = .ok (.iinc 2 1, 3) := by decide +kernel
theorem dX12_token_118 : decode cX12_token 118 = .ok (.goto (-44), 3) := by decide +kernel
theorem dX12_token_121 : decode cX12_token 121 = .ok (.aload_n 0, 1) := by decide +kernel
theorem dX12_token_122 : decode cX12_token 122 = .ok (.iload_n 2, 1) := by decide +kernel
theorem dX12_token_123 : decode cX12_token 123 = .ok (.bipush 8, 2) := by decide +kernel
theorem dX12_token_125 : decode cX12_token 125 = .ok (.if_icmp .le 7, 3) := by decide +kernel
theorem dX12_token_128 : decode cX12_token 128 = .ok (.lconst 0, 1) := by decide +kernel
theorem dX12_token_129 : decode cX12_token 129 = .ok (.goto 7, 3) := by decide +kernel
theorem dX12_token_132 : decode cX12_token 132 = .ok (.aload_n 0, 1) := by decide +kernel
theorem dX12_token_133 : decode cX12_token 133 = .ok (.getfield 136, 3) := by decide +kernel
theorem dX12_token_136 : decode cX12_token 136 = .ok (.putfield 136, 3) := by decide +kernel
theorem dX12_token_139 : decode cX12_token 139 = .ok (.aload_n 0, 1) := by decide +kernel
theorem dX12_token_140 : decode cX12_token 140 = .ok (.iconst 2, 1) := by decide +kernel
theorem dX12_token_141 : decode cX12_token 141 = .ok (.putfield 140, 3) := by decide +kernel
theorem dX12_token_144 : decode cX12_token 144 = .ok (.goto 122, 3) := by decide +kernel
theorem dX12_token_147 : decode cX12_token 147 = .ok (.iload_n 1, 1) := by decide +kernel
theorem dX12_token_148 : decode cX12_token 148 = .ok (.bipush 48, 2) := by decide +kernel
theorem dX12_token_150 : decode cX12_token 150 = .ok (.bipush 57, 2) := by decide +kernel
theorem dX12_token_152 : decode cX12_token 152 = .ok (.invokestatic 115, 3) := by decide +kernel
theorem dX12_token_155 : decode cX12_token 155 = .ok (.ifCond .eq 86, 3) := by decide +kernel
theorem dX12_token_158 : decode cX12_token 158 = .ok (.aload_n 0, 1) := by decide +kernel
theorem dX12_token_159 : decode cX12_token 159 = .ok (.iconst 0, 1) := by decide +kernel
theorem dX12_token_160 : decode cX12_token 160 = .ok (.putfield 143, 3) := by decide +kernel
theorem dX12_token_163 : decode cX12_token 163 = .ok (.aload_n 0, 1) := by decide +kernel
theorem dX12_token_164 : decode cX12_token 164 = .ok (.invokevirtual 129, 3) := by decide +kernel
theorem dX12_token_167 : decode cX12_token 167 = .ok (.bipush 48, 2) := by decide +kernel
theorem dX12_token_169 : decode cX12_token 169 = .ok (.bipush 57, 2) := by decide +kernel
theorem dX12_token_171 : decode cX12_token 171 = .ok (.invokestatic 115, 3) := by decide +kernel
theorem dX12_token_174 : decode cX12_token 174 = .ok (.ifCond .eq 50, 3) := by decide +kernel
theorem dX12_token_177 : decode cX12_token 177 = .ok (.aload_n 0, 1) := by decide +kernel
theorem dX12_token_178 : decode cX12_token 178 = .ok (.iload_n 2, 1) := by decide +kernel
theorem dX12_token_179 : decode cX12_token 179 = .ok (.iconst 2, 1) := by decide +kernel
theorem dX12_token_180 : decode cX12_token 180 = .ok (.if_icmp .ge 21, 3) := by decide +kernel
theorem dX12_token_183 : decode cX12_token 183 = .ok (.bipush 10, 2) := by decide +kernel
theorem dX12_token_185 : decode cX12_token 185 = .ok (.aload_n 0, 1) := by decide +kernel
theorem dX12_token_186 : decode cX12_token 186 = .ok (.getfield 143, 3) := by decide +kernel
theorem dX12_token_189 : decode cX12_token 189 = .ok (.imul, 1) := by decide +kernel
theorem dX12_token_190 : decode cX12_token 190 = .ok (.aload_n 0, 1) := by decide +kernel
theorem dX12_token_191 : decode cX12_token 191 = .ok (.invokevirtual 129, 3) := by decide +kernel
theorem dX12_token_194 : decode cX12_token 194 = .ok (.iadd, 1) := by decide +kernel
theorem dX12_token_195 : decode cX12_token 195 = .ok (.bipush 48, 2) := by decide +kernel
theorem dX12_token_197 : decode cX12_token 197 = .ok (.isub, 1) := by decide +kernel
theorem dX12_token_198 : decode cX12_token 198 = .ok (.goto 7, 3) := by decide +kernel
theorem dX12_token_201 : decode cX12_token 201 = .ok (.aload_n 0, 1) := by decide +kernel
theorem dX12_token_202 : decode cX12_token 202 = .ok (.getfield 143, 3) := by decide +kernel
theorem dX12_token_205 : decode cX12_token 205 = .ok (.putfield 143, 3) := by decide +kernel
theorem dX12_token_208 : decode cX12_token 208 = .ok (.aload_n 0, 1) := by decide +kernel
theorem dX12_token_209 : decode cX12_token 209 = .ok (.dup, 1) := by decide +kernel
theorem dX12_token_210 : decode cX12_token 210 = .ok (.getfield 123, 3) := by decide +kernel
theorem dX12_token_213 : decode cX12_token 213 = .ok (.iconst 1, 1) := by decide +kernel
theorem dX12_token_214 : decode cX12_token 214 = .ok (.iadd, 1) := by decide +kernel
theorem dX12_token_215 : decode cX12_token 215 = .ok (.putfield 123, 3) := by decide +kernel
theorem dX12_token_218 : decode cX12_token 218 = .ok (.iinc 2 1, 3) := by decide +kernel
theorem dX12_token_221 : decode cX12_token 221 = .ok (.goto (-58), 3) := by decide +kernel
theorem dX12_token_224 : decode cX12_token 224 = .ok (.aload_n 0, 1) := by decide +kernel
theorem dX12_token_225 : decode cX12_token 225 = .ok (.iload_n 2, 1) := by decide +kernel
theorem dX12_token_226 : decode cX12_token 226 = .ok (.iconst 2, 1) := by decide +kernel
theorem dX12_token_227 : decode cX12_token 227 = .ok (.if_icmp .le 7, 3) := by decide +kernel
theorem dX12_token_230 : decode cX12_token 230 = .ok (.iconst 1, 1) := by decide +kernel
theorem dX12_token_231 : decode cX12_token 231 = .ok (.goto 4, 3) := by decide +kernel
theorem dX12_token_234 : decode cX12_token 234 = .ok (.iconst 3, 1) := by decide +kernel
theorem dX12_token_235 : decode cX12_token 235 = .ok (.putfield 140, 3) := by decide +kernel
theorem dX12_token_238 : decode cX12_token 238 = .ok (.goto 28, 3) := by decide +kernel
theorem dX12_token_241 : decode cX12_token 241 = .ok (.aload_n 0, 1) := by decide +kernel
theorem dX12_token_242 : decode cX12_token 242 = .ok (.dup, 1) := by decide +kernel
theorem dX12_token_243 : decode cX12_token 243 = .ok (.getfield 123, 3) := by decide +kernel
theorem dX12_token_246 : decode cX12_token 246 = .ok (.iconst 1, 1) := by decide +kernel
theorem dX12_token_247 : decode cX12_token 247 = .ok (.iadd, 1) := by decide +kernel
theorem dX12_token_248 : decode cX12_token 248 = .ok (.putfield 123, 3) := by decide +kernel
theorem dX12_token_251 : decode cX12_token 251 = .ok (.aload_n 0, 1) := by decide +kernel
theorem dX12_token_252 : decode cX12_token 252 = .ok (.iload_n 1, 1) := by decide +kernel
theorem dX12_token_253 : decode cX12_token 253 = .ok (.bipush 59, 2) := by decide +kernel
theorem dX12_token_255 : decode cX12_token 255 = .ok (.if_icmp .ne 7, 3) := by decide +kernel
theorem dX12_token_258 : decode cX12_token 258 = .ok (.iconst 4, 1) := by decide +kernel
theorem dX12_token_259 : decode cX12_token 259 = .ok (.goto 4, 3) := by decide +kernel
theorem dX12_token_262 : decode cX12_token 262 = .ok (.iconst 1, 1) := by decide +kernel
theorem dX12_token_263 : decode cX12_token 263 = .ok (.putfield 140, 3) := by decide +kernel
theorem dX12_token_266 : decode cX12_token 266 = .ok (.return_, 1) := by decide +kernel
theorem tf_12_123 : tFld TB0 12 123 = some (12, 9) := rfl
theorem tf_12_126 : tFld TB0 12 126 = some (12, 10) := rfl
theorem tf_12_133 : tFld TB0 12 133 = some (12, 11) := rfl
theorem tf_12_136 : tFld TB0 12 136 = some (12, 14) := rfl
theorem tf_12_140 : tFld TB0 12 140 = some (12, 12) := rfl
theorem tf_12_143 : tFld TB0 12 143 = some (12, 13) := rfl
set_option maxRecDepth 20000 in
theorem tm_12_129 : tMet TB0 12 129 = some (0, M_X12_see) := rfl
/-! TEXT: the reference's tokens -/
theorem b255 : ∀ k : Nat, k < 256 → zI ((k : Int) - 128) &&& zI 255 = zI (((k : Int) - 128) % 256) := by decide +kernel
section
variable {T : mTb} {ad : mA} {M : mM} {dp : Nat} {lim : Nat × Nat} {cal : mC} {Q : mZ} {pc : Nat} {L L' : mL} {h : mH} {zz : Nat × Nat} {r st : List Value}
theorem z_iand255 {x : Int} (hd : decode (mMc M) pc = .ok (.iand, 1)) (h0 : -128 ≤ x) (h1 : x < 128) (k : mEv T ad M dp lim cal Q (pc + 1) L (.int (zI (x % 256)) :: r) h zz) : mEv T ad M dp lim cal Q pc L (.int (zI 255) :: .int (zI x) :: r) h zz := by
  refine e_iand hd ?_
  have e := b255 (x + 128).toNat (by omega)
  rw [show (((x + 128).toNat : Nat) : Int) - 128 = x by omega] at e
  rw [e]; exact k
theorem z_lshl8 {x : Int} (hd : decode (mMc M) pc = .ok (.lshl, 1)) (h0 : 0 ≤ x) (k : mEv T ad M dp lim cal Q (pc + 1) L (.long (zJ (x * 256)) :: r) h zz) : mEv T ad M dp lim cal Q pc L (.int (zI 8) :: .long (zJ x) :: r) h zz := by
  refine e_lshl hd ?_
  rw [zJ_lN h0, zI_nI (show (0 : Int) ≤ 8 by omega), wb_shl _ (show (8 : Int).toNat < 64 by decide), ← zJ_n, show (((x.toNat * 2 ^ (8 : Int).toNat : Nat)) : Int) = x * 256 by rw [show (2 : Nat) ^ (8 : Int).toNat = 256 from rfl]; omega]
  exact k
theorem z_lor8 {x c : Int} (hd : decode (mMc M) pc = .ok (.lor, 1)) (h0 : 0 ≤ x) (h1 : 0 ≤ c) (h2 : c < 256) (k : mEv T ad M dp lim cal Q (pc + 1) L (.long (zJ (x * 256 + c)) :: r) h zz) : mEv T ad M dp lim cal Q pc L (.long (zJ c) :: .long (zJ (x * 256)) :: r) h zz := by
  refine e_lor hd ?_
  have e : (x * 256).toNat ||| c.toNat = (x * 256 + c).toNat := by
    have := Nat.shiftLeft_add_eq_or_of_lt (b := c.toNat) (i := 8) (show c.toNat < 2 ^ 8 by omega) x.toNat
    rw [Nat.shiftLeft_eq, show (2 : Nat) ^ 8 = 256 from rfl] at this
    rw [show (x * 256).toNat = x.toNat * 256 by omega, ← this]; omega
  rw [zJ_lN (show 0 ≤ x * 256 by omega), zJ_lN h1, fb_orL, e, ← zJ_lN (by omega)]
  exact k
theorem z_getJw {a i c j : Nat} (v : Int) (hd : decode (mMc M) pc = .ok (.getfield i, 3)) (ht : tFld T (mMo M) i = some (c, j)) (hs : (mS h a).1 = c) (hy : mty c j = .long) (hv : zJ (rJ h a j) = zJ v) (k : mEv T ad M dp lim cal Q (pc + 3) L (.long (zJ v) :: r) h zz) : mEv T ad M dp lim cal Q pc L (.ref a :: r) h zz := z_getJ (rJ h a j) hd ht hs hy rfl (by rw [hv]; exact k)
end
theorem rJ_w {h h1 : mH} {a : Nat} {z v : Int} (e : h1 = sJ h a z v) : zJ (rJ h1 a z) = zJ v := by
  obtain ⟨u, hu, eu⟩ : ∃ u : Int, inJ u ∧ zJ v = zJ u := ⟨(zJ v).toInt, ⟨(zJ v).le_toInt, (zJ v).toInt_lt⟩, (zJ_toInt _).symm⟩
  have e2 : h1 = sJ h a z u := by rw [e]; unfold sJ; rw [eu]
  rw [rJ_eq e2 hu, eu]
def ksZ (k : Int) : Int := if k = 0 then 2 else if k = 1 then 3 else if k = 2 then 4 else if k = 3 then 0 else 1
theorem ks_p (k : Int) : (k = 0 ∧ ksZ k = 2) ∨ (k = 1 ∧ ksZ k = 3) ∨ (k = 2 ∧ ksZ k = 4) ∨ (k = 3 ∧ ksZ k = 0) ∨ ((k < 0 ∨ 3 < k) ∧ ksZ k = 1) := by
  unfold ksZ
  by_cases h0 : k = 0
  · rw [if_pos h0]; omega
  by_cases h1 : k = 1
  · rw [if_neg h0, if_pos h1]; omega
  by_cases h2 : k = 2
  · rw [if_neg h0, if_neg h1, if_pos h2]; omega
  by_cases h3 : k = 3
  · rw [if_neg h0, if_neg h1, if_neg h2, if_pos h3]; omega
  · rw [if_neg h0, if_neg h1, if_neg h2, if_neg h3]; omega
def rfT (h : mH) (m : Nat) (T : Int → Int) (L : Int) : Prop := (0 ≤ L ∧ L ≤ 600) ∧ rI h m 10 = L ∧ (∀ k : Int, 0 ≤ k → k < L → rI h (m + 1) k = T k) ∧ ∀ k : Int, 0 ≤ k → k < L → -128 ≤ T k ∧ T k < 128
theorem rfT_c {S : Nat → Nat → Prop} {h h1 : mH} {m : Nat} {T : Int → Int} {L : Int} (f : frm S h h1) (z : ∀ a k, (a = m ∧ k = 10) ∨ a = m + 1 → ¬ S a k) (H : rfT h m T L) : rfT h1 m T L := ⟨H.1, (frm_r f (z _ _ (by omega))).trans H.2.1, fun k a e => (frm_r f (z _ _ (by omega))).trans (H.2.2.1 k a e), H.2.2.2⟩
def rfP (h : mH) (m : Nat) (T : Int → Int) (L p : Int) : Prop := (0 ≤ p ∧ p ≤ L) ∧ rI h m 9 = tkE T L p ∧ rI h m 12 = ksZ (tkK T L p) ∧ rI h m 11 = tkS T L p ∧ (tkK T L p = 1 → rI h m 13 = tkV T L p) ∧ rJ h m 14 = tkW T L p
theorem rfP_c {S : Nat → Nat → Prop} {h h1 : mH} {m : Nat} {T : Int → Int} {L p : Int} (f : frm S h h1) (z : ∀ a k, a = m ∧ (k = 9 ∨ (11 ≤ k ∧ k ≤ 14)) → ¬ S a k) (H : rfP h m T L p) : rfP h1 m T L p := ⟨H.1, (frm_r f (z _ _ (by omega))).trans H.2.1, (frm_r f (z _ _ (by omega))).trans H.2.2.1, (frm_r f (z _ _ (by omega))).trans H.2.2.2.1, fun k => (frm_r f (z _ _ (by omega))).trans (H.2.2.2.2.1 k), (frm_rJ f (z _ _ (by omega))).trans H.2.2.2.2.2⟩
def seZ (T : Int → Int) (L a : Int) : Int := if a < L then T a % 256 else -1
theorem se_f {h : mH} {m : Nat} {T : Int → Int} {L a : Int} (H : rfT h m T L) (a0 : 0 ≤ a) : (a < L ∧ ((0 ≤ T a ∧ T a < 128 ∧ seZ T L a = T a) ∨ (-128 ≤ T a ∧ T a < 0 ∧ seZ T L a = T a + 256))) ∨ (¬ a < L ∧ seZ T L a = -1) := by
  unfold seZ
  by_cases q : a < L
  · rw [if_pos q]; have := H.2.2.2 a a0 q; omega
  · rw [if_neg q]; exact Or.inr ⟨q, rfl⟩
theorem rfP_3 {h : mH} {m : Nat} {T : Int → Int} {L p a : Int} (pp : 0 ≤ p ∧ p ≤ L) (es : tkS T L p = a) (l : L ≤ a) (e9 : rI h m 9 = a) (e12 : rI h m 12 = 0) (e11 : rI h m 11 = a) (ew : rJ h m 14 = 0) : rfP h m T L p := by
  have c := tk_c T L p
  rw [es] at c
  have k : tkK T L p = 3 := by omega
  have kp := ks_p (tkK T L p)
  exact ⟨pp, by omega, by omega, by omega, fun k => by omega, by rw [tw_0 (by omega)]; exact ew⟩
theorem rfP_0 {h : mH} {m : Nat} {T : Int → Int} {L p a : Int} (pp : 0 ≤ p ∧ p ≤ L) (es : tkS T L p = a) (l : a < L) (q : 97 ≤ T a ∧ T a ≤ 122) (e9 : rI h m 9 = ltE T L a) (e12 : rI h m 12 = 2) (e11 : rI h m 11 = a) (ew : rJ h m 14 = tkW T L p) : rfP h m T L p := by
  have c := tk_c T L p
  rw [es] at c
  have kp := ks_p (tkK T L p)
  exact ⟨pp, by omega, by omega, by omega, fun k => by omega, ew⟩
theorem rfP_1 {h : mH} {m : Nat} {T : Int → Int} {L p a : Int} (pp : 0 ≤ p ∧ p ≤ L) (es : tkS T L p = a) (l : a < L) (q : 48 ≤ T a ∧ T a ≤ 57) (e9 : rI h m 9 = dgE T L a) (e12 : (rI h m 12 = 3 ∧ dgE T L a - a ≤ 2) ∨ (rI h m 12 = 1 ∧ 2 < dgE T L a - a)) (e11 : rI h m 11 = a) (e13 : dgE T L a - a ≤ 2 → rI h m 13 = tvZ T a (dgE T L a)) (ew : rJ h m 14 = 0) : rfP h m T L p := by
  have c := tk_c T L p
  rw [es] at c
  have kp := ks_p (tkK T L p)
  have ee : tkE T L p = dgE T L a := by omega
  refine ⟨pp, by omega, by omega, by omega, fun k => ?_, by rw [tw_0 (by omega)]; exact ew⟩
  unfold tkV
  rw [es, ee]
  exact e13 (by omega)
theorem rfP_2 {h : mH} {m : Nat} {T : Int → Int} {L p a : Int} (pp : 0 ≤ p ∧ p ≤ L) (es : tkS T L p = a) (l : a < L) (q1 : ¬ (97 ≤ T a ∧ T a ≤ 122)) (q2 : ¬ (48 ≤ T a ∧ T a ≤ 57)) (e9 : rI h m 9 = a + 1) (e12 : (rI h m 12 = 4 ∧ T a = 59) ∨ (rI h m 12 = 1 ∧ T a ≠ 59)) (e11 : rI h m 11 = a) (ew : rJ h m 14 = 0) : rfP h m T L p := by
  have c := tk_c T L p
  rw [es] at c
  have kp := ks_p (tkK T L p)
  exact ⟨pp, by omega, by omega, by omega, fun k => by omega, by rw [tw_0 (by omega)]; exact ew⟩
theorem tw_e {T : Int → Int} {L p a e : Int} (es : tkS T L p = a) (l : a < L) (q : 97 ≤ T a ∧ T a ≤ 122) (ee : ltE T L a = e) : tkW T L p = if e - a ≤ 8 then bwN T a (e - a).toNat else 0 := by
  have c := tk_c T L p
  rw [es] at c
  have k : tkK T L p = 0 := by omega
  have e2 : tkE T L p = e := by omega
  unfold tkW
  rw [es, e2]
  by_cases z : e - a ≤ 8
  · rw [if_pos ⟨k, z⟩, if_pos z]
  · rw [if_neg (fun w => z w.2), if_neg z]
set_option maxHeartbeats 400000 in
theorem zp_X12_see {ad : mA} {dd : Nat} {h : mH} {Q : mQ} {m : Nat} {T : Int → Int} {L : Int} (hk : rk h m) (HT : rfT h m T L) (a : Int)  (pa : rI h m 9 = a) (ps : 0 ≤ a ∧ a ≤ L) (kq : Q (some (.int (zI (seZ T L a)))) h) : mCal TB0 ad (dd + 1) M_X12_see [.ref m] h 0 0 Q := by
  refine ⟨Nat.le_of_ble_eq_true rfl, ?_⟩
  show mEv TB0 ad M_X12_see (dd + 1) (0, 0) (mCal TB0 ad (dd + 0)) (fun v h' z => z.1 = 0 ∧ Q v h') 0 [some (.ref m)] [] h (0, 0)
  have w1 := HT.1
  refine e_aload_n dX12_see_0 rfl ?_
  refine z_get a dX12_see_1 tf_12_123 (rk_s hk) (Or.inl rfl) pa ?_
  refine e_aload_n dX12_see_4 rfl ?_
  refine z_get L dX12_see_5 tf_12_126 (rk_s hk) (Or.inl rfl) HT.2.1 ?_
  have y1 := HT.1
  refine z_icmp_ge 27 dX12_see_8 rfl ⟨by omega, by omega⟩ ⟨by omega, by omega⟩ (fun c2 => ?_) (fun c2 => ?_)
  · skip
    refine z_iconst (-1) dX12_see_27 rfl ?_
    refine z_iret dX12_see_28 rfl ⟨rfl, ?_⟩
    refine z_q kq ?_
    unfold seZ; first | rw [if_pos (by omega)] | rw [if_neg (by omega)]
  · skip
    refine e_aload_n dX12_see_11 rfl ?_
    refine e_get (.ref (m + 1)) dX12_see_12 tf_12_7 (rk_s hk) (congrArg va_rf (rk_r1 hk)) ?_
    refine e_aload_n dX12_see_15 rfl ?_
    refine z_get a dX12_see_16 tf_12_123 (rk_s hk) (Or.inl rfl) pa ?_
    refine z_bld (T a) dX12_see_19 (rk_a1 hk) (by decide) (by omega) (by omega) (HT.2.2.1 a (by omega) (by omega)) ?_
    have y3 := HT.2.2.2 a (by omega) (by omega)
    refine z_sipush (255) dX12_see_20 rfl ?_
    refine z_iand255 dX12_see_23 (by omega) (by omega) ?_
    refine e_goto 28 dX12_see_24 rfl ?_
    refine z_iret dX12_see_28 rfl ⟨rfl, ?_⟩
    refine z_q kq ?_
    unfold seZ; first | rw [if_pos (by omega)] | rw [if_neg (by omega)]
set_option maxHeartbeats 4000000 in
theorem zp_X12_token {ad : mA} {dd : Nat} {h : mH} {Q : mQ} {m : Nat} {T : Int → Int} {L : Int} (hk : rk h m) (HT : rfT h m T L) (p : Int)  (pa : rI h m 9 = p) (pp : 0 ≤ p ∧ p ≤ L) (kq : ∀ h1, frm (fun a k => a = m ∧ (k = 9 ∨ (11 ≤ k ∧ k ≤ 14))) h h1 → (rfP h1 m T L p) → Q none h1) : mCal TB0 ad (dd + 2) M_X12_token [.ref m] h 0 0 Q := by
  refine ⟨Nat.le_of_ble_eq_true rfl, ?_⟩
  show mEv TB0 ad M_X12_token (dd + 2) (0, 0) (mCal TB0 ad (dd + 1)) (fun v h' z => z.1 = 0 ∧ Q v h') 0 [some (.ref m), none, none] [] h (0, 0)
  have FR0 : frm (fun a k => a = m ∧ (k = 9 ∨ (11 ≤ k ∧ k ≤ 14))) h h := frm_0 h
  have w1 := HT.1
  have lp1 : ∀ (n1 : Nat) (a : Int) (h1 : mH), (L - a).toNat = n1 → (rk h1 m) → (rfT h1 m T L) → (frm (fun a k => a = m ∧ (k = 9 ∨ (11 ≤ k ∧ k ≤ 14))) h h1) → (p ≤ a ∧ a ≤ L) → (rI h1 m 9 = a) → (tkS T L p = tkS T L a) → mEv TB0 ad M_X12_token (dd + 2) (0, 0) (mCal TB0 ad (dd + 1)) (fun v h' z => z.1 = 0 ∧ Q v h') 0 [some (.ref m), none, none] [] h1 (0, 0) := by
    intro n1
    induction n1 using Nat.strongRecOn with
    | ind n1 ih1 =>
    intro a h1 hn1 k2 H3 FR4 I1 I2 I3
    refine e_aload_n dX12_token_0 rfl ?_
    have PA1 : rI h1 m 9 = a := I2
    refine e_callV [] dX12_token_1 tm_12_129 rfl (Nat.le_of_ble_eq_true rfl) (rk_s k2) (Nat.le_of_ble_eq_true rfl) (Nat.le_refl _) (Nat.le_refl _) rfl (zp_X12_see k2 H3 a PA1 (by omega) ?_)
    have sf := se_f H3 (show 0 ≤ a by omega)
    refine z_bipush (10) dX12_token_4 rfl ?_
    refine z_icmp_eq 18 dX12_token_6 rfl ⟨by omega, by omega⟩ ⟨by omega, by omega⟩ (fun c5 => ?_) (fun c5 => ?_)
    · skip
      refine e_aload_n dX12_token_18 rfl ?_
      refine e_dup dX12_token_19 rfl ?_
      refine z_get a dX12_token_20 tf_12_123 (rk_s k2) (Or.inl rfl) I2 ?_
      refine z_iconst (1) dX12_token_23 rfl ?_
      refine z_iadd dX12_token_24 ?_
      refine z_put dX12_token_25 tf_12_123 (rk_s k2) rfl (Or.inl rfl) (fun h6 e7 => ?_)
      have f8 := frm_1 e7
      have k9 := rk_q (frm_s f8) k2
      have H10 := rfT_c f8 (fun a k q => by omega) H3
      have FR11 := frm_t FR4 (frm_m (S' := (fun a k => a = m ∧ (k = 9 ∨ (11 ≤ k ∧ k ≤ 14)))) f8 (fun a k q => by omega))
      refine e_goto 0 dX12_token_28 rfl ?_
      exact ih1 _ (by omega) (a + 1) h6 rfl k9 H10 FR11 (by omega) (rI_eq e7 ⟨by omega, by omega⟩) (I3.trans (ts_y (by omega) (by omega)))
    · skip
      skip
      refine e_aload_n dX12_token_9 rfl ?_
      have PA10 : rI h1 m 9 = a := I2
      refine e_callV [] dX12_token_10 tm_12_129 rfl (Nat.le_of_ble_eq_true rfl) (rk_s k2) (Nat.le_of_ble_eq_true rfl) (Nat.le_refl _) (Nat.le_refl _) rfl (zp_X12_see k2 H3 a PA10 (by omega) ?_)
      refine z_bipush (32) dX12_token_13 rfl ?_
      refine z_icmp_ne 31 dX12_token_15 rfl ⟨by omega, by omega⟩ ⟨by omega, by omega⟩ (fun c12 => ?_) (fun c12 => ?_)
      · skip
        skip
        have ES : tkS T L p = a := I3.trans (ts_n (by omega))
        refine e_aload_n dX12_token_31 rfl ?_
        refine e_aload_n dX12_token_32 rfl ?_
        refine z_get a dX12_token_33 tf_12_123 (rk_s k2) (Or.inl rfl) I2 ?_
        refine z_put dX12_token_36 tf_12_133 (rk_s k2) rfl (Or.inl rfl) (fun h13 e14 => ?_)
        have f15 := frm_1 e14
        have k16 := rk_q (frm_s f15) k2
        have H17 := rfT_c f15 (fun a k q => by omega) H3
        have FR18 := frm_t FR4 (frm_m (S' := (fun a k => a = m ∧ (k = 9 ∨ (11 ≤ k ∧ k ≤ 14)))) f15 (fun a k q => by omega))
        refine e_aload_n dX12_token_39 rfl ?_
        have PA40 : rI h13 m 9 = a := ((frm_r f15 (by omega))).trans I2
        refine e_callV [] dX12_token_40 tm_12_129 rfl (Nat.le_of_ble_eq_true rfl) (rk_s k16) (Nat.le_of_ble_eq_true rfl) (Nat.le_refl _) (Nat.le_refl _) rfl (zp_X12_see k16 H17 a PA40 (by omega) ?_)
        refine e_istore_n (L' := [_, _, _]) dX12_token_43 (Nat.le_of_ble_eq_true rfl) rfl ?_
        refine e_aload_n dX12_token_44 rfl ?_
        refine z_lconst (0) dX12_token_45 rfl ?_
        refine z_putJ dX12_token_46 tf_12_136 (rk_s k16) rfl (Or.inl rfl) (fun h19 e20 => ?_)
        have f21 := frm_1J e20
        have k22 := rk_q (frm_s f21) k16
        have H23 := rfT_c f21 (fun a k q => by omega) H17
        have FR24 := frm_t FR18 (frm_m (S' := (fun a k => a = m ∧ (k = 9 ∨ (11 ≤ k ∧ k ≤ 14)))) f21 (fun a k q => by omega))
        have z25 : rI h19 m 11 = a := ((frm_r f21 (by omega)).trans (rI_eq e14 ⟨by omega, by omega⟩))
        have z25b : rI h19 m 9 = a := (((frm_r f21 (by omega)).trans (frm_r f15 (by omega)))).trans I2
        have z25w : rJ h19 m 14 = 0 := (rJ_eq e20 ⟨by omega, by omega⟩)
        refine z_iconst (0) dX12_token_49 rfl ?_
        refine e_istore_n (L' := [_, _, _]) dX12_token_50 (Nat.le_of_ble_eq_true rfl) rfl ?_
        refine e_iload_n dX12_token_51 rfl ?_
        refine z_if_ge 63 dX12_token_52 rfl ⟨by omega, by omega⟩ (fun c26 => ?_) (fun c26 => ?_)
        · skip
          skip
          refine e_iload_n dX12_token_63 rfl ?_
          refine z_bipush (97) dX12_token_64 rfl ?_
          refine z_bipush (122) dX12_token_66 rfl ?_
          refine e_callS [.int _, .int _, .int _] dX12_token_68 tm_12_115 rfl (Nat.le_of_ble_eq_true rfl) (Nat.le_refl _) (Nat.le_refl _) rfl (zp_X12_in (seZ T L a) ⟨by omega, by omega⟩ 97 ⟨by omega, by omega⟩ 122 ⟨by omega, by omega⟩ ?_)
          refine z_ifb_eq 147 dX12_token_71 rfl (fun c27 => ?_) (fun c27 => ?_)
          · skip
            have lna : ¬ (97 ≤ T a ∧ T a ≤ 122) := by omega
            skip
            refine e_iload_n dX12_token_147 rfl ?_
            refine z_bipush (48) dX12_token_148 rfl ?_
            refine z_bipush (57) dX12_token_150 rfl ?_
            refine e_callS [.int _, .int _, .int _] dX12_token_152 tm_12_115 rfl (Nat.le_of_ble_eq_true rfl) (Nat.le_refl _) (Nat.le_refl _) rfl (zp_X12_in (seZ T L a) ⟨by omega, by omega⟩ 48 ⟨by omega, by omega⟩ 57 ⟨by omega, by omega⟩ ?_)
            refine z_ifb_eq 241 dX12_token_155 rfl (fun c28 => ?_) (fun c28 => ?_)
            · skip
              have oa : a < L ∧ ¬ (48 ≤ T a ∧ T a ≤ 57) ∧ (seZ T L a = 59 ↔ T a = 59) ∧ 0 ≤ seZ T L a ∧ seZ T L a ≤ 255 := by omega
              clear sf c28 c5 c12 c26 c27
              refine e_aload_n dX12_token_241 rfl ?_
              refine e_dup dX12_token_242 rfl ?_
              refine z_get a dX12_token_243 tf_12_123 (rk_s k22) (Or.inl rfl) z25b ?_
              refine z_iconst (1) dX12_token_246 rfl ?_
              refine z_iadd dX12_token_247 ?_
              refine z_put dX12_token_248 tf_12_123 (rk_s k22) rfl (Or.inl rfl) (fun h29 e30 => ?_)
              have f31 := frm_1 e30
              have k32 := rk_q (frm_s f31) k22
              have H33 := rfT_c f31 (fun a k q => by omega) H23
              have FR34 := frm_t FR24 (frm_m (S' := (fun a k => a = m ∧ (k = 9 ∨ (11 ≤ k ∧ k ≤ 14)))) f31 (fun a k q => by omega))
              refine e_aload_n dX12_token_251 rfl ?_
              refine e_iload_n dX12_token_252 rfl ?_
              refine z_bipush (59) dX12_token_253 rfl ?_
              refine z_icmp_ne 262 dX12_token_255 rfl ⟨by omega, by omega⟩ ⟨by omega, by omega⟩ (fun c35 => ?_) (fun c35 => ?_)
              · skip
                refine z_iconst (1) dX12_token_262 rfl ?_
                refine z_put dX12_token_263 tf_12_140 (rk_s k32) rfl (Or.inl rfl) (fun h36 e37 => ?_)
                have f38 := frm_1 e37
                have k39 := rk_q (frm_s f38) k32
                have H40 := rfT_c f38 (fun a k q => by omega) H33
                have FR41 := frm_t FR34 (frm_m (S' := (fun a k => a = m ∧ (k = 9 ∨ (11 ≤ k ∧ k ≤ 14)))) f38 (fun a k q => by omega))
                refine e_vret dX12_token_266 rfl ⟨rfl, ?_⟩
                exact kq _ FR41 (rfP_2 pp ES (by omega) (by omega) (by omega) ((frm_r f38 (by omega)).trans (rI_eq e30 ⟨by omega, by omega⟩)) (by first | exact Or.inl ⟨(rI_eq e37 ⟨by omega, by omega⟩), by omega⟩ | exact Or.inr ⟨(rI_eq e37 ⟨by omega, by omega⟩), by omega⟩) ((((frm_r f38 (by omega)).trans (frm_r f31 (by omega)))).trans z25) ((((frm_rJ f38 (by omega)).trans (frm_rJ f31 (by omega)))).trans z25w))
              · skip
                refine z_iconst (4) dX12_token_258 rfl ?_
                refine e_goto 263 dX12_token_259 rfl ?_
                refine z_put dX12_token_263 tf_12_140 (rk_s k32) rfl (Or.inl rfl) (fun h42 e43 => ?_)
                have f44 := frm_1 e43
                have k45 := rk_q (frm_s f44) k32
                have H46 := rfT_c f44 (fun a k q => by omega) H33
                have FR47 := frm_t FR34 (frm_m (S' := (fun a k => a = m ∧ (k = 9 ∨ (11 ≤ k ∧ k ≤ 14)))) f44 (fun a k q => by omega))
                refine e_vret dX12_token_266 rfl ⟨rfl, ?_⟩
                exact kq _ FR47 (rfP_2 pp ES (by omega) (by omega) (by omega) ((frm_r f44 (by omega)).trans (rI_eq e30 ⟨by omega, by omega⟩)) (by first | exact Or.inl ⟨(rI_eq e43 ⟨by omega, by omega⟩), by omega⟩ | exact Or.inr ⟨(rI_eq e43 ⟨by omega, by omega⟩), by omega⟩) ((((frm_r f44 (by omega)).trans (frm_r f31 (by omega)))).trans z25) ((((frm_rJ f44 (by omega)).trans (frm_rJ f31 (by omega)))).trans z25w))
            · skip
              have da : a < L ∧ (48 ≤ T a ∧ T a ≤ 57) := by omega
              have d1 := dg_1 da.1 da.2
              clear sf lna c28 c5 c12 c26 c27
              refine e_aload_n dX12_token_158 rfl ?_
              refine z_iconst (0) dX12_token_159 rfl ?_
              refine z_put dX12_token_160 tf_12_143 (rk_s k22) rfl (Or.inl rfl) (fun h48 e49 => ?_)
              have f50 := frm_1 e49
              have k51 := rk_q (frm_s f50) k22
              have H52 := rfT_c f50 (fun a k q => by omega) H23
              have FR53 := frm_t FR24 (frm_m (S' := (fun a k => a = m ∧ (k = 9 ∨ (11 ≤ k ∧ k ≤ 14)))) f50 (fun a k q => by omega))
              have lp54 : ∀ (n54 : Nat) (k e w : Int) (h54 : mH), (L - e).toNat = n54 → (rk h54 m) → (rfT h54 m T L) → (frm (fun a k => a = m ∧ (k = 9 ∨ (11 ≤ k ∧ k ≤ 14))) h h54) → ((a ≤ e ∧ e ≤ L) ∧ k = e - a) → (rI h54 m 9 = e ∧ rI h54 m 11 = a ∧ rJ h54 m 14 = 0) → (dgE T L a = dgE T L e) → (rI h54 m 13 = w) → ((k = 0 ∧ w = 0) ∨ (k = 1 ∧ w = T a - 48 ∧ 0 ≤ w ∧ w ≤ 9) ∨ (2 ≤ k ∧ w = 10 * (T a - 48) + (T (a + 1) - 48) ∧ 0 ≤ w ∧ w ≤ 99)) → mEv TB0 ad M_X12_token (dd + 2) (0, 0) (mCal TB0 ad (dd + 1)) (fun v h' z => z.1 = 0 ∧ Q v h') 163 [some (.ref m), some (.int (zI (seZ T L a))), some (.int (zI k))] [] h54 (0, 0) := by
                intro n54
                induction n54 using Nat.strongRecOn with
                | ind n54 ih54 =>
                intro k e w h54 hn54 k55 H56 FR57 D1 D2 D3 D4 D5
                refine e_aload_n dX12_token_163 rfl ?_
                have PA164 : rI h54 m 9 = e := D2.1
                refine e_callV [] dX12_token_164 tm_12_129 rfl (Nat.le_of_ble_eq_true rfl) (rk_s k55) (Nat.le_of_ble_eq_true rfl) (Nat.le_refl _) (Nat.le_refl _) rfl (zp_X12_see k55 H56 e PA164 (by omega) ?_)
                have sg := se_f H56 (show 0 ≤ e by omega)
                refine z_bipush (48) dX12_token_167 rfl ?_
                refine z_bipush (57) dX12_token_169 rfl ?_
                refine e_callS [.int _, .int _, .int _] dX12_token_171 tm_12_115 rfl (Nat.le_of_ble_eq_true rfl) (Nat.le_refl _) (Nat.le_refl _) rfl (zp_X12_in (seZ T L e) ⟨by omega, by omega⟩ 48 ⟨by omega, by omega⟩ 57 ⟨by omega, by omega⟩ ?_)
                refine z_ifb_eq 224 dX12_token_174 rfl (fun c58 => ?_) (fun c58 => ?_)
                · skip
                  have ln : ¬ (e < L ∧ (48 ≤ T e ∧ T e ≤ 57)) := by omega
                  clear sg c58
                  have ED : dgE T L a = e := D3.trans (dge_n ln)
                  refine e_aload_n dX12_token_224 rfl ?_
                  refine e_iload_n dX12_token_225 rfl ?_
                  refine z_iconst (2) dX12_token_226 rfl ?_
                  refine z_icmp_le 234 dX12_token_227 rfl ⟨by omega, by omega⟩ ⟨by omega, by omega⟩ (fun c59 => ?_) (fun c59 => ?_)
                  · skip
                    refine z_iconst (3) dX12_token_234 rfl ?_
                    refine z_put dX12_token_235 tf_12_140 (rk_s k55) rfl (Or.inl rfl) (fun h60 e61 => ?_)
                    have f62 := frm_1 e61
                    have k63 := rk_q (frm_s f62) k55
                    have H64 := rfT_c f62 (fun a k q => by omega) H56
                    have FR65 := frm_t FR57 (frm_m (S' := (fun a k => a = m ∧ (k = 9 ∨ (11 ≤ k ∧ k ≤ 14)))) f62 (fun a k q => by omega))
                    refine e_goto 266 dX12_token_238 rfl ?_
                    refine e_vret dX12_token_266 rfl ⟨rfl, ?_⟩
                    exact kq _ FR65 (rfP_1 pp ES (by omega) (by omega) (by rw [ED]; exact ((frm_r f62 (by omega))).trans D2.1) (by rw [ED]; first | exact Or.inl ⟨(rI_eq e61 ⟨by omega, by omega⟩), by omega⟩ | exact Or.inr ⟨(rI_eq e61 ⟨by omega, by omega⟩), by omega⟩) (((frm_r f62 (by omega))).trans D2.2.1) (fun z => by
                      rw [ED] at z
                      refine (((frm_r f62 (by omega))).trans D4).trans ?_
                      unfold tvZ
                      rw [ED]
                      by_cases u : e - a = 1
                      · rw [if_pos u]; omega
                      · rw [if_neg u]; omega) (((frm_rJ f62 (by omega))).trans D2.2.2))
                  · skip
                    refine z_iconst (1) dX12_token_230 rfl ?_
                    refine e_goto 235 dX12_token_231 rfl ?_
                    refine z_put dX12_token_235 tf_12_140 (rk_s k55) rfl (Or.inl rfl) (fun h66 e67 => ?_)
                    have f68 := frm_1 e67
                    have k69 := rk_q (frm_s f68) k55
                    have H70 := rfT_c f68 (fun a k q => by omega) H56
                    have FR71 := frm_t FR57 (frm_m (S' := (fun a k => a = m ∧ (k = 9 ∨ (11 ≤ k ∧ k ≤ 14)))) f68 (fun a k q => by omega))
                    refine e_goto 266 dX12_token_238 rfl ?_
                    refine e_vret dX12_token_266 rfl ⟨rfl, ?_⟩
                    exact kq _ FR71 (rfP_1 pp ES (by omega) (by omega) (by rw [ED]; exact ((frm_r f68 (by omega))).trans D2.1) (by rw [ED]; first | exact Or.inl ⟨(rI_eq e67 ⟨by omega, by omega⟩), by omega⟩ | exact Or.inr ⟨(rI_eq e67 ⟨by omega, by omega⟩), by omega⟩) (((frm_r f68 (by omega))).trans D2.2.1) (fun z => by
                      rw [ED] at z
                      refine (((frm_r f68 (by omega))).trans D4).trans ?_
                      unfold tvZ
                      rw [ED]
                      by_cases u : e - a = 1
                      · rw [if_pos u]; omega
                      · rw [if_neg u]; omega) (((frm_rJ f68 (by omega))).trans D2.2.2))
                · skip
                  have le : e < L ∧ (48 ≤ T e ∧ T e ≤ 57) ∧ seZ T L e = T e := by omega
                  clear sg c58
                  have ea : e = a → T e = T a := fun z => by rw [z]
                  have eb : e = a + 1 → T e = T (a + 1) := fun z => by rw [z]
                  refine e_aload_n dX12_token_177 rfl ?_
                  refine e_iload_n dX12_token_178 rfl ?_
                  refine z_iconst (2) dX12_token_179 rfl ?_
                  refine z_icmp_ge 201 dX12_token_180 rfl ⟨by omega, by omega⟩ ⟨by omega, by omega⟩ (fun c72 => ?_) (fun c72 => ?_)
                  · skip
                    refine e_aload_n dX12_token_201 rfl ?_
                    refine z_get w dX12_token_202 tf_12_143 (rk_s k55) (Or.inl rfl) D4 ?_
                    refine z_put dX12_token_205 tf_12_143 (rk_s k55) rfl (Or.inl rfl) (fun h73 e74 => ?_)
                    have f75 := frm_1 e74
                    have k76 := rk_q (frm_s f75) k55
                    have H77 := rfT_c f75 (fun a k q => by omega) H56
                    have FR78 := frm_t FR57 (frm_m (S' := (fun a k => a = m ∧ (k = 9 ∨ (11 ≤ k ∧ k ≤ 14)))) f75 (fun a k q => by omega))
                    refine e_aload_n dX12_token_208 rfl ?_
                    refine e_dup dX12_token_209 rfl ?_
                    refine z_get e dX12_token_210 tf_12_123 (rk_s k76) (Or.inl rfl) (((frm_r f75 (by omega))).trans D2.1) ?_
                    refine z_iconst (1) dX12_token_213 rfl ?_
                    refine z_iadd dX12_token_214 ?_
                    refine z_put dX12_token_215 tf_12_123 (rk_s k76) rfl (Or.inl rfl) (fun h79 e80 => ?_)
                    have f81 := frm_1 e80
                    have k82 := rk_q (frm_s f81) k76
                    have H83 := rfT_c f81 (fun a k q => by omega) H77
                    have FR84 := frm_t FR78 (frm_m (S' := (fun a k => a = m ∧ (k = 9 ∨ (11 ≤ k ∧ k ≤ 14)))) f81 (fun a k q => by omega))
                    refine z_iinc (L' := [_, _, _]) dX12_token_218 rfl rfl ?_
                    refine e_goto 163 dX12_token_221 rfl ?_
                    exact ih54 _ (by omega) (k + 1) (e + 1) w h79 rfl k82 H83 FR84 (by omega) (⟨(rI_eq e80 ⟨by omega, by omega⟩), (((frm_r f81 (by omega)).trans (frm_r f75 (by omega)))).trans D2.2.1, (((frm_rJ f81 (by omega)).trans (frm_rJ f75 (by omega)))).trans D2.2.2⟩) (D3.trans (dge_y le.1 le.2.1)) ((frm_r f81 (by omega)).trans (rI_eq e74 ⟨by omega, by omega⟩)) (by
                              rcases D5 with z | z | z
                              · have z2 := ea (by omega)
                                exact Or.inr (Or.inl (by omega))
                              · have z2 := eb (by omega)
                                exact Or.inr (Or.inr (by omega))
                              · exact Or.inr (Or.inr (by omega)))
                  · skip
                    refine z_bipush (10) dX12_token_183 rfl ?_
                    refine e_aload_n dX12_token_185 rfl ?_
                    refine z_get w dX12_token_186 tf_12_143 (rk_s k55) (Or.inl rfl) D4 ?_
                    refine z_imul dX12_token_189 ?_
                    refine e_aload_n dX12_token_190 rfl ?_
                    have PA191 : rI h54 m 9 = e := D2.1
                    refine e_callV [] dX12_token_191 tm_12_129 rfl (Nat.le_of_ble_eq_true rfl) (rk_s k55) (Nat.le_of_ble_eq_true rfl) (Nat.le_refl _) (Nat.le_refl _) rfl (zp_X12_see k55 H56 e PA191 (by omega) ?_)
                    refine z_iadd dX12_token_194 ?_
                    refine z_bipush (48) dX12_token_195 rfl ?_
                    refine z_isub dX12_token_197 ?_
                    refine e_goto 205 dX12_token_198 rfl ?_
                    refine z_put dX12_token_205 tf_12_143 (rk_s k55) rfl (Or.inl rfl) (fun h85 e86 => ?_)
                    have f87 := frm_1 e86
                    have k88 := rk_q (frm_s f87) k55
                    have H89 := rfT_c f87 (fun a k q => by omega) H56
                    have FR90 := frm_t FR57 (frm_m (S' := (fun a k => a = m ∧ (k = 9 ∨ (11 ≤ k ∧ k ≤ 14)))) f87 (fun a k q => by omega))
                    refine e_aload_n dX12_token_208 rfl ?_
                    refine e_dup dX12_token_209 rfl ?_
                    refine z_get e dX12_token_210 tf_12_123 (rk_s k88) (Or.inl rfl) (((frm_r f87 (by omega))).trans D2.1) ?_
                    refine z_iconst (1) dX12_token_213 rfl ?_
                    refine z_iadd dX12_token_214 ?_
                    refine z_put dX12_token_215 tf_12_123 (rk_s k88) rfl (Or.inl rfl) (fun h91 e92 => ?_)
                    have f93 := frm_1 e92
                    have k94 := rk_q (frm_s f93) k88
                    have H95 := rfT_c f93 (fun a k q => by omega) H89
                    have FR96 := frm_t FR90 (frm_m (S' := (fun a k => a = m ∧ (k = 9 ∨ (11 ≤ k ∧ k ≤ 14)))) f93 (fun a k q => by omega))
                    refine z_iinc (L' := [_, _, _]) dX12_token_218 rfl rfl ?_
                    refine e_goto 163 dX12_token_221 rfl ?_
                    exact ih54 _ (by omega) (k + 1) (e + 1) (((10 * w) + (seZ T L e)) - 48) h91 rfl k94 H95 FR96 (by omega) (⟨(rI_eq e92 ⟨by omega, by omega⟩), (((frm_r f93 (by omega)).trans (frm_r f87 (by omega)))).trans D2.2.1, (((frm_rJ f93 (by omega)).trans (frm_rJ f87 (by omega)))).trans D2.2.2⟩) (D3.trans (dge_y le.1 le.2.1)) ((frm_r f93 (by omega)).trans (rI_eq e86 ⟨by omega, by omega⟩)) (by
                              rcases D5 with z | z | z
                              · have z2 := ea (by omega)
                                exact Or.inr (Or.inl (by omega))
                              · have z2 := eb (by omega)
                                exact Or.inr (Or.inr (by omega))
                              · exact Or.inr (Or.inr (by omega)))
              exact lp54 _ 0 a 0 h48 rfl k51 H52 FR53 (by omega) (⟨((frm_r f50 (by omega))).trans z25b, ((frm_r f50 (by omega))).trans z25, ((frm_rJ f50 (by omega))).trans z25w⟩) rfl (rI_eq e49 ⟨by omega, by omega⟩) (by omega)
          · skip
            have la : a < L ∧ (97 ≤ T a ∧ T a ≤ 122) := by omega
            clear sf c27 c5 c12 c26
            have lp97 : ∀ (n97 : Nat) (k e : Int) (h97 : mH), (L - e).toNat = n97 → (rk h97 m) → (rfT h97 m T L) → (frm (fun a k => a = m ∧ (k = 9 ∨ (11 ≤ k ∧ k ≤ 14))) h h97) → ((a ≤ e ∧ e ≤ L) ∧ k = e - a) → (rI h97 m 9 = e ∧ rI h97 m 11 = a) → (ltE T L a = ltE T L e) → (zJ (rJ h97 m 14) = zJ (bwN T a k.toNat)) → (∀ j : Int, a ≤ j → j < e → 97 ≤ T j ∧ T j ≤ 122) → mEv TB0 ad M_X12_token (dd + 2) (0, 0) (mCal TB0 ad (dd + 1)) (fun v h' z => z.1 = 0 ∧ Q v h') 74 [some (.ref m), some (.int (zI (seZ T L a))), some (.int (zI k))] [] h97 (0, 0) := by
              intro n97
              induction n97 using Nat.strongRecOn with
              | ind n97 ih97 =>
              intro k e h97 hn97 k98 H99 FR100 J1 J2 J3 J4 J6
              refine e_aload_n dX12_token_74 rfl ?_
              have PA75 : rI h97 m 9 = e := J2.1
              refine e_callV [] dX12_token_75 tm_12_129 rfl (Nat.le_of_ble_eq_true rfl) (rk_s k98) (Nat.le_of_ble_eq_true rfl) (Nat.le_refl _) (Nat.le_refl _) rfl (zp_X12_see k98 H99 e PA75 (by omega) ?_)
              have sg := se_f H99 (show 0 ≤ e by omega)
              refine z_bipush (97) dX12_token_78 rfl ?_
              refine z_bipush (122) dX12_token_80 rfl ?_
              refine e_callS [.int _, .int _, .int _] dX12_token_82 tm_12_115 rfl (Nat.le_of_ble_eq_true rfl) (Nat.le_refl _) (Nat.le_refl _) rfl (zp_X12_in (seZ T L e) ⟨by omega, by omega⟩ 97 ⟨by omega, by omega⟩ 122 ⟨by omega, by omega⟩ ?_)
              refine z_ifb_eq 121 dX12_token_85 rfl (fun c101 => ?_) (fun c101 => ?_)
              · skip
                have ln : ¬ (e < L ∧ (97 ≤ T e ∧ T e ≤ 122)) := by omega
                clear sg c101
                have EL : ltE T L a = e := J3.trans (lt_n ln)
                refine e_aload_n dX12_token_121 rfl ?_
                refine e_iload_n dX12_token_122 rfl ?_
                refine z_bipush (8) dX12_token_123 rfl ?_
                refine z_icmp_le 132 dX12_token_125 rfl ⟨by omega, by omega⟩ ⟨by omega, by omega⟩ (fun c102 => ?_) (fun c102 => ?_)
                · skip
                  refine e_aload_n dX12_token_132 rfl ?_
                  refine z_getJw (bwN T a k.toNat) dX12_token_133 tf_12_136 (rk_s k98) rfl J4 ?_
                  refine z_putJ dX12_token_136 tf_12_136 (rk_s k98) rfl (Or.inl rfl) (fun h103 e104 => ?_)
                  have f105 := frm_1J e104
                  have k106 := rk_q (frm_s f105) k98
                  have H107 := rfT_c f105 (fun a k q => by omega) H99
                  have FR108 := frm_t FR100 (frm_m (S' := (fun a k => a = m ∧ (k = 9 ∨ (11 ≤ k ∧ k ≤ 14)))) f105 (fun a k q => by omega))
                  have w109 : rJ h103 m 14 = tkW T L p := (rJ_eq e104 (by have tb := tw_b (T := T) (L := L) (p := p); have te := tw_e ES (by omega) (by omega) EL; first | (rw [if_pos (by omega)] at te; rw [show k.toNat = (e - a).toNat by omega, ← te]; exact ⟨by omega, by omega⟩) | exact ⟨by omega, by omega⟩)).trans (by have te := tw_e ES (by omega) (by omega) EL; first | (rw [if_pos (by omega)] at te; rw [show k.toNat = (e - a).toNat by omega]; exact te.symm) | (rw [if_neg (by omega)] at te; exact te.symm))
                  refine e_aload_n dX12_token_139 rfl ?_
                  refine z_iconst (2) dX12_token_140 rfl ?_
                  refine z_put dX12_token_141 tf_12_140 (rk_s k106) rfl (Or.inl rfl) (fun h110 e111 => ?_)
                  have f112 := frm_1 e111
                  have k113 := rk_q (frm_s f112) k106
                  have H114 := rfT_c f112 (fun a k q => by omega) H107
                  have FR115 := frm_t FR108 (frm_m (S' := (fun a k => a = m ∧ (k = 9 ∨ (11 ≤ k ∧ k ≤ 14)))) f112 (fun a k q => by omega))
                  refine e_goto 266 dX12_token_144 rfl ?_
                  refine e_vret dX12_token_266 rfl ⟨rfl, ?_⟩
                  exact kq _ FR115 (rfP_0 pp ES (by omega) (by omega) (by rw [EL]; exact (((frm_r f112 (by omega)).trans (frm_r f105 (by omega)))).trans J2.1) (rI_eq e111 ⟨by omega, by omega⟩) ((((frm_r f112 (by omega)).trans (frm_r f105 (by omega)))).trans J2.2) (((frm_rJ f112 (by omega))).trans w109))
                · skip
                  refine z_lconst (0) dX12_token_128 rfl ?_
                  refine e_goto 136 dX12_token_129 rfl ?_
                  refine z_putJ dX12_token_136 tf_12_136 (rk_s k98) rfl (Or.inl rfl) (fun h116 e117 => ?_)
                  have f118 := frm_1J e117
                  have k119 := rk_q (frm_s f118) k98
                  have H120 := rfT_c f118 (fun a k q => by omega) H99
                  have FR121 := frm_t FR100 (frm_m (S' := (fun a k => a = m ∧ (k = 9 ∨ (11 ≤ k ∧ k ≤ 14)))) f118 (fun a k q => by omega))
                  have w122 : rJ h116 m 14 = tkW T L p := (rJ_eq e117 (by have tb := tw_b (T := T) (L := L) (p := p); have te := tw_e ES (by omega) (by omega) EL; first | (rw [if_pos (by omega)] at te; rw [show k.toNat = (e - a).toNat by omega, ← te]; exact ⟨by omega, by omega⟩) | exact ⟨by omega, by omega⟩)).trans (by have te := tw_e ES (by omega) (by omega) EL; first | (rw [if_pos (by omega)] at te; rw [show k.toNat = (e - a).toNat by omega]; exact te.symm) | (rw [if_neg (by omega)] at te; exact te.symm))
                  refine e_aload_n dX12_token_139 rfl ?_
                  refine z_iconst (2) dX12_token_140 rfl ?_
                  refine z_put dX12_token_141 tf_12_140 (rk_s k119) rfl (Or.inl rfl) (fun h123 e124 => ?_)
                  have f125 := frm_1 e124
                  have k126 := rk_q (frm_s f125) k119
                  have H127 := rfT_c f125 (fun a k q => by omega) H120
                  have FR128 := frm_t FR121 (frm_m (S' := (fun a k => a = m ∧ (k = 9 ∨ (11 ≤ k ∧ k ≤ 14)))) f125 (fun a k q => by omega))
                  refine e_goto 266 dX12_token_144 rfl ?_
                  refine e_vret dX12_token_266 rfl ⟨rfl, ?_⟩
                  exact kq _ FR128 (rfP_0 pp ES (by omega) (by omega) (by rw [EL]; exact (((frm_r f125 (by omega)).trans (frm_r f118 (by omega)))).trans J2.1) (rI_eq e124 ⟨by omega, by omega⟩) ((((frm_r f125 (by omega)).trans (frm_r f118 (by omega)))).trans J2.2) (((frm_rJ f125 (by omega))).trans w122))
              · skip
                have le : e < L ∧ (97 ≤ T e ∧ T e ≤ 122) ∧ seZ T L e = T e := by omega
                clear sg c101
                have bb := bw_b (T := T) (s := a) (n := k.toNat) (fun j x y => J6 j x (by omega))
                refine e_aload_n dX12_token_88 rfl ?_
                refine e_aload_n dX12_token_89 rfl ?_
                refine z_getJw (bwN T a k.toNat) dX12_token_90 tf_12_136 (rk_s k98) rfl J4 ?_
                refine z_bipush (8) dX12_token_93 rfl ?_
                refine z_lshl8 dX12_token_95 (by omega) ?_
                refine e_aload_n dX12_token_96 rfl ?_
                have PA97 : rI h97 m 9 = e := J2.1
                refine e_callV [] dX12_token_97 tm_12_129 rfl (Nat.le_of_ble_eq_true rfl) (rk_s k98) (Nat.le_of_ble_eq_true rfl) (Nat.le_refl _) (Nat.le_refl _) rfl (zp_X12_see k98 H99 e PA97 (by omega) ?_)
                refine z_i2l dX12_token_100 ⟨by omega, by omega⟩ ?_
                refine z_lor8 dX12_token_101 (by omega) (by omega) (by omega) ?_
                refine z_putJ dX12_token_102 tf_12_136 (rk_s k98) rfl (Or.inl rfl) (fun h129 e130 => ?_)
                have f131 := frm_1J e130
                have k132 := rk_q (frm_s f131) k98
                have H133 := rfT_c f131 (fun a k q => by omega) H99
                have FR134 := frm_t FR100 (frm_m (S' := (fun a k => a = m ∧ (k = 9 ∨ (11 ≤ k ∧ k ≤ 14)))) f131 (fun a k q => by omega))
                refine e_aload_n dX12_token_105 rfl ?_
                refine e_dup dX12_token_106 rfl ?_
                refine z_get e dX12_token_107 tf_12_123 (rk_s k132) (Or.inl rfl) (((frm_r f131 (by omega))).trans J2.1) ?_
                refine z_iconst (1) dX12_token_110 rfl ?_
                refine z_iadd dX12_token_111 ?_
                refine z_put dX12_token_112 tf_12_123 (rk_s k132) rfl (Or.inl rfl) (fun h135 e136 => ?_)
                have f137 := frm_1 e136
                have k138 := rk_q (frm_s f137) k132
                have H139 := rfT_c f137 (fun a k q => by omega) H133
                have FR140 := frm_t FR134 (frm_m (S' := (fun a k => a = m ∧ (k = 9 ∨ (11 ≤ k ∧ k ≤ 14)))) f137 (fun a k q => by omega))
                refine z_iinc (L' := [_, _, _]) dX12_token_115 rfl rfl ?_
                refine e_goto 74 dX12_token_118 rfl ?_
                exact ih97 _ (by omega) (k + 1) (e + 1) h135 rfl k138 H139 FR140 (by omega) (⟨(rI_eq e136 ⟨by omega, by omega⟩), (((frm_r f137 (by omega)).trans (frm_r f131 (by omega)))).trans J2.2⟩) (J3.trans (lt_y (by omega) (by omega))) (by rw [(frm_rJ f137 (by omega)), show zJ (rJ h129 m 14) = zJ (((bwN T a k.toNat) * 256) + (seZ T L e)) from rJ_w e130, show (k + 1).toNat = k.toNat + 1 by omega]; show _ = zJ (bwN T a k.toNat * 256 + T (a + (k.toNat : Int))); rw [show a + (k.toNat : Int) = e by omega, show seZ T L e = T e by omega]) (fun j x y => by
                          by_cases z : j = e
                          · rw [z]; omega
                          · exact J6 j x (by omega))
            exact lp97 _ 0 a h19 rfl k22 H23 FR24 (by omega) (⟨z25b, z25⟩) rfl (by rw [z25w]; rfl) (fun j x y => by omega)
        · skip
          have za : L ≤ a := by omega
          clear sf
          refine e_aload_n dX12_token_55 rfl ?_
          refine z_iconst (0) dX12_token_56 rfl ?_
          refine z_put dX12_token_57 tf_12_140 (rk_s k22) rfl (Or.inl rfl) (fun h141 e142 => ?_)
          have f143 := frm_1 e142
          have k144 := rk_q (frm_s f143) k22
          have H145 := rfT_c f143 (fun a k q => by omega) H23
          have FR146 := frm_t FR24 (frm_m (S' := (fun a k => a = m ∧ (k = 9 ∨ (11 ≤ k ∧ k ≤ 14)))) f143 (fun a k q => by omega))
          refine e_goto 266 dX12_token_60 rfl ?_
          refine e_vret dX12_token_266 rfl ⟨rfl, ?_⟩
          exact kq _ FR146 (rfP_3 pp ES (by omega) (((frm_r f143 (by omega))).trans z25b) (rI_eq e142 ⟨by omega, by omega⟩) (((frm_r f143 (by omega))).trans z25) (((frm_rJ f143 (by omega))).trans z25w))
      · skip
        refine e_aload_n dX12_token_18 rfl ?_
        refine e_dup dX12_token_19 rfl ?_
        refine z_get a dX12_token_20 tf_12_123 (rk_s k2) (Or.inl rfl) I2 ?_
        refine z_iconst (1) dX12_token_23 rfl ?_
        refine z_iadd dX12_token_24 ?_
        refine z_put dX12_token_25 tf_12_123 (rk_s k2) rfl (Or.inl rfl) (fun h147 e148 => ?_)
        have f149 := frm_1 e148
        have k150 := rk_q (frm_s f149) k2
        have H151 := rfT_c f149 (fun a k q => by omega) H3
        have FR152 := frm_t FR4 (frm_m (S' := (fun a k => a = m ∧ (k = 9 ∨ (11 ≤ k ∧ k ≤ 14)))) f149 (fun a k q => by omega))
        refine e_goto 0 dX12_token_28 rfl ?_
        exact ih1 _ (by omega) (a + 1) h147 rfl k150 H151 FR152 (by omega) (rI_eq e148 ⟨by omega, by omega⟩) (I3.trans (ts_y (by omega) (by omega)))
  exact lp1 _ p h rfl hk HT FR0 (by omega) pa rfl
