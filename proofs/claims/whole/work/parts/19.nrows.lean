/-! rows over small numbers, nI n -/
section NRow
variable {T : mTb} {ad : mA} {M : mM} {dp : Nat} {lim : Nat × Nat} {cal : mC} {Q : mZ} {pc : Nat} {L L' : mL} {h : mH} {z : Nat × Nat} {r st : List Value}
theorem e_iaddN {x y : Nat} (hd : decode (mMc M) pc = .ok (.iadd, 1)) (k : mEv T ad M dp lim cal Q (pc + 1) L (.int (nI (x + y)) :: r) h z) : mEv T ad M dp lim cal Q pc L (.int (nI y) :: .int (nI x) :: r) h z := e_iadd hd (by rw [nI_add]; exact k)
theorem e_imulN {x y : Nat} (hd : decode (mMc M) pc = .ok (.imul, 1)) (k : mEv T ad M dp lim cal Q (pc + 1) L (.int (nI (x * y)) :: r) h z) : mEv T ad M dp lim cal Q pc L (.int (nI y) :: .int (nI x) :: r) h z := e_imul hd (by rw [pk_mul]; exact k)
theorem e_isubN {x y : Nat} (hd : decode (mMc M) pc = .ok (.isub, 1)) (hle : y ≤ x) (k : mEv T ad M dp lim cal Q (pc + 1) L (.int (nI (x - y)) :: r) h z) : mEv T ad M dp lim cal Q pc L (.int (nI y) :: .int (nI x) :: r) h z := e_isub hd (by rw [pk_sub hle]; exact k)
theorem e_idivN {x y : Nat} (hd : decode (mMc M) pc = .ok (.idiv, 1)) (hx : x < 2 ^ 31) (h0 : 0 < y) (hy : y < 2 ^ 31) (k : mEv T ad M dp lim cal Q (pc + 1) L (.int (nI (x / y)) :: r) h z) : mEv T ad M dp lim cal Q pc L (.int (nI y) :: .int (nI x) :: r) h z := e_idiv hd (nI_ne0 h0 hy) (by rw [pk_div hx h0 hy]; exact k)
theorem e_iremN {x y : Nat} (hd : decode (mMc M) pc = .ok (.irem, 1)) (hx : x < 2 ^ 31) (h0 : 0 < y) (hy : y < 2 ^ 31) (k : mEv T ad M dp lim cal Q (pc + 1) L (.int (nI (x % y)) :: r) h z) : mEv T ad M dp lim cal Q pc L (.int (nI y) :: .int (nI x) :: r) h z := e_irem hd (nI_ne0 h0 hy) (by rw [pk_rem hx h0 hy]; exact k)
theorem e_iincN {i x n : Nat} {c : Int} (hd : decode (mMc M) pc = .ok (.iinc i c, 3)) (hl : L[i]? = some (some (.int (nI x)))) (hc : Int32.ofInt c = nI n) (hL : mSet1 L i (.int (nI (x + n))) = L') (k : mEv T ad M dp lim cal Q (pc + 3) L' st h z) : mEv T ad M dp lim cal Q pc L st h z := e_iinc (nI (x + n)) hd hl (by rw [hc, nI_add]) hL k
theorem e_icmpN_ge {x y : Nat} {off : Int} (t : Nat) (hd : decode (mMc M) pc = .ok (.if_icmp .ge off, 3)) (ht : (pc : Int) + off = (t : Int)) (hx : x < 2 ^ 31) (hy : y < 2 ^ 31) (kt : y ≤ x → mEv T ad M dp lim cal Q t L r h z) (kf : x < y → mEv T ad M dp lim cal Q (pc + 3) L r h z) : mEv T ad M dp lim cal Q pc L (.int (nI y) :: .int (nI x) :: r) h z := e_icmp_ge t hd ht (fun q => kt ((nI_leI hy hx).mp q)) (fun q => kf (Nat.lt_of_not_le (fun w => q ((nI_leI hy hx).mpr w))))
theorem e_icmpN_lt {x y : Nat} {off : Int} (t : Nat) (hd : decode (mMc M) pc = .ok (.if_icmp .lt off, 3)) (ht : (pc : Int) + off = (t : Int)) (hx : x < 2 ^ 31) (hy : y < 2 ^ 31) (kt : x < y → mEv T ad M dp lim cal Q t L r h z) (kf : y ≤ x → mEv T ad M dp lim cal Q (pc + 3) L r h z) : mEv T ad M dp lim cal Q pc L (.int (nI y) :: .int (nI x) :: r) h z := e_icmp_lt t hd ht (fun q => kt ((nI_ltI hx hy).mp q)) (fun q => kf (Nat.le_of_not_lt (fun w => q ((nI_ltI hx hy).mpr w))))
theorem e_icmpN_gt {x y : Nat} {off : Int} (t : Nat) (hd : decode (mMc M) pc = .ok (.if_icmp .gt off, 3)) (ht : (pc : Int) + off = (t : Int)) (hx : x < 2 ^ 31) (hy : y < 2 ^ 31) (kt : y < x → mEv T ad M dp lim cal Q t L r h z) (kf : x ≤ y → mEv T ad M dp lim cal Q (pc + 3) L r h z) : mEv T ad M dp lim cal Q pc L (.int (nI y) :: .int (nI x) :: r) h z := e_icmp_gt t hd ht (fun q => kt ((nI_ltI hy hx).mp q)) (fun q => kf (Nat.le_of_not_lt (fun w => q ((nI_ltI hy hx).mpr w))))
theorem e_icmpN_le {x y : Nat} {off : Int} (t : Nat) (hd : decode (mMc M) pc = .ok (.if_icmp .le off, 3)) (ht : (pc : Int) + off = (t : Int)) (hx : x < 2 ^ 31) (hy : y < 2 ^ 31) (kt : x ≤ y → mEv T ad M dp lim cal Q t L r h z) (kf : y < x → mEv T ad M dp lim cal Q (pc + 3) L r h z) : mEv T ad M dp lim cal Q pc L (.int (nI y) :: .int (nI x) :: r) h z := e_icmp_le t hd ht (fun q => kt ((nI_leI hx hy).mp q)) (fun q => kf (Nat.lt_of_not_le (fun w => q ((nI_leI hx hy).mpr w))))
theorem e_icmpN_eq {x y : Nat} {off : Int} (t : Nat) (hd : decode (mMc M) pc = .ok (.if_icmp .eq off, 3)) (ht : (pc : Int) + off = (t : Int)) (hx : x < 2 ^ 31) (hy : y < 2 ^ 31) (kt : x = y → mEv T ad M dp lim cal Q t L r h z) (kf : ¬ x = y → mEv T ad M dp lim cal Q (pc + 3) L r h z) : mEv T ad M dp lim cal Q pc L (.int (nI y) :: .int (nI x) :: r) h z := e_icmp_eq t hd ht (fun q => kt ((nI_eq hx hy).mp q)) (fun q => kf (fun w => q ((nI_eq hx hy).mpr w)))
theorem e_icmpN_ne {x y : Nat} {off : Int} (t : Nat) (hd : decode (mMc M) pc = .ok (.if_icmp .ne off, 3)) (ht : (pc : Int) + off = (t : Int)) (hx : x < 2 ^ 31) (hy : y < 2 ^ 31) (kt : ¬ x = y → mEv T ad M dp lim cal Q t L r h z) (kf : x = y → mEv T ad M dp lim cal Q (pc + 3) L r h z) : mEv T ad M dp lim cal Q pc L (.int (nI y) :: .int (nI x) :: r) h z := e_icmp_ne t hd ht (fun q => kt (fun w => q ((nI_eq hx hy).mpr w))) (fun q => kf ((nI_eq hx hy).mp q))
end NRow
/-- a boolean answer, 0 or 1 -/
theorem nz_ite {c : Prop} [Decidable c] : narrow .boolean (.int (if c then 1 else 0)) = .int (if c then 1 else 0) := by split <;> rfl
/-! THE REFERENCE'S OBJECT: its cells lie behind each other -/
/-- offset, field, kind, length of the reference's arrays -/
def rA : List (Nat × Nat × Nat × Nat) := [(1, 1, 13, 2400), (2, 2, 14, 4), (3, 3, 14, 4), (4, 4, 14, 4), (5, 5, 14, 12), (6, 6, 14, 648), (7, 7, 14, 968), (8, 8, 14, 200), (9, 18, 14, 121), (10, 19, 14, 4), (11, 27, 14, 12), (12, 28, 14, 12), (13, 29, 14, 12), (14, 30, 14, 12), (15, 31, 14, 12), (16, 39, 14, 6), (17, 40, 14, 6), (18, 41, 14, 6), (19, 42, 14, 6), (20, 43, 14, 6), (21, 44, 16, 6), (22, 47, 14, 6), (23, 50, 14, 6), (24, 51, 14, 6), (25, 52, 14, 651), (26, 53, 15, 100), (27, 55, 14, 36), (28, 58, 14, 6), (29, 59, 14, 36), (30, 60, 16, 3)]
def rk (h : mH) (m : Nat) : Prop := mS h m = (12, 0) ∧ ∀ q ∈ rA, mR h m q.2.1 = some (m + q.1) ∧ mS h (m + q.1) = (q.2.2.1, q.2.2.2)
theorem rk_s {h : mH} {m : Nat} (hk : rk h m) : (mS h m).1 = 12 := by rw [hk.1]
theorem rk_r1 {h : mH} {m : Nat} (hk : rk h m) : mR h m 1 = some (m + 1) := (hk.2 (1, 1, 13, 2400) (List.mem_of_getElem? (i := 0) rfl)).1
theorem rk_a1 {h : mH} {m : Nat} (hk : rk h m) : mS h (m + 1) = (13, 2400) := (hk.2 (1, 1, 13, 2400) (List.mem_of_getElem? (i := 0) rfl)).2
theorem rk_r2 {h : mH} {m : Nat} (hk : rk h m) : mR h m 2 = some (m + 2) := (hk.2 (2, 2, 14, 4) (List.mem_of_getElem? (i := 1) rfl)).1
theorem rk_a2 {h : mH} {m : Nat} (hk : rk h m) : mS h (m + 2) = (14, 4) := (hk.2 (2, 2, 14, 4) (List.mem_of_getElem? (i := 1) rfl)).2
theorem rk_r3 {h : mH} {m : Nat} (hk : rk h m) : mR h m 3 = some (m + 3) := (hk.2 (3, 3, 14, 4) (List.mem_of_getElem? (i := 2) rfl)).1
theorem rk_a3 {h : mH} {m : Nat} (hk : rk h m) : mS h (m + 3) = (14, 4) := (hk.2 (3, 3, 14, 4) (List.mem_of_getElem? (i := 2) rfl)).2
theorem rk_r4 {h : mH} {m : Nat} (hk : rk h m) : mR h m 4 = some (m + 4) := (hk.2 (4, 4, 14, 4) (List.mem_of_getElem? (i := 3) rfl)).1
theorem rk_a4 {h : mH} {m : Nat} (hk : rk h m) : mS h (m + 4) = (14, 4) := (hk.2 (4, 4, 14, 4) (List.mem_of_getElem? (i := 3) rfl)).2
theorem rk_r5 {h : mH} {m : Nat} (hk : rk h m) : mR h m 5 = some (m + 5) := (hk.2 (5, 5, 14, 12) (List.mem_of_getElem? (i := 4) rfl)).1
theorem rk_a5 {h : mH} {m : Nat} (hk : rk h m) : mS h (m + 5) = (14, 12) := (hk.2 (5, 5, 14, 12) (List.mem_of_getElem? (i := 4) rfl)).2
theorem rk_r6 {h : mH} {m : Nat} (hk : rk h m) : mR h m 6 = some (m + 6) := (hk.2 (6, 6, 14, 648) (List.mem_of_getElem? (i := 5) rfl)).1
theorem rk_a6 {h : mH} {m : Nat} (hk : rk h m) : mS h (m + 6) = (14, 648) := (hk.2 (6, 6, 14, 648) (List.mem_of_getElem? (i := 5) rfl)).2
theorem rk_r7 {h : mH} {m : Nat} (hk : rk h m) : mR h m 7 = some (m + 7) := (hk.2 (7, 7, 14, 968) (List.mem_of_getElem? (i := 6) rfl)).1
theorem rk_a7 {h : mH} {m : Nat} (hk : rk h m) : mS h (m + 7) = (14, 968) := (hk.2 (7, 7, 14, 968) (List.mem_of_getElem? (i := 6) rfl)).2
theorem rk_r8 {h : mH} {m : Nat} (hk : rk h m) : mR h m 8 = some (m + 8) := (hk.2 (8, 8, 14, 200) (List.mem_of_getElem? (i := 7) rfl)).1
theorem rk_a8 {h : mH} {m : Nat} (hk : rk h m) : mS h (m + 8) = (14, 200) := (hk.2 (8, 8, 14, 200) (List.mem_of_getElem? (i := 7) rfl)).2
theorem rk_r9 {h : mH} {m : Nat} (hk : rk h m) : mR h m 18 = some (m + 9) := (hk.2 (9, 18, 14, 121) (List.mem_of_getElem? (i := 8) rfl)).1
theorem rk_a9 {h : mH} {m : Nat} (hk : rk h m) : mS h (m + 9) = (14, 121) := (hk.2 (9, 18, 14, 121) (List.mem_of_getElem? (i := 8) rfl)).2
theorem rk_r10 {h : mH} {m : Nat} (hk : rk h m) : mR h m 19 = some (m + 10) := (hk.2 (10, 19, 14, 4) (List.mem_of_getElem? (i := 9) rfl)).1
theorem rk_a10 {h : mH} {m : Nat} (hk : rk h m) : mS h (m + 10) = (14, 4) := (hk.2 (10, 19, 14, 4) (List.mem_of_getElem? (i := 9) rfl)).2
theorem rk_r11 {h : mH} {m : Nat} (hk : rk h m) : mR h m 27 = some (m + 11) := (hk.2 (11, 27, 14, 12) (List.mem_of_getElem? (i := 10) rfl)).1
theorem rk_a11 {h : mH} {m : Nat} (hk : rk h m) : mS h (m + 11) = (14, 12) := (hk.2 (11, 27, 14, 12) (List.mem_of_getElem? (i := 10) rfl)).2
theorem rk_r12 {h : mH} {m : Nat} (hk : rk h m) : mR h m 28 = some (m + 12) := (hk.2 (12, 28, 14, 12) (List.mem_of_getElem? (i := 11) rfl)).1
theorem rk_a12 {h : mH} {m : Nat} (hk : rk h m) : mS h (m + 12) = (14, 12) := (hk.2 (12, 28, 14, 12) (List.mem_of_getElem? (i := 11) rfl)).2
theorem rk_r13 {h : mH} {m : Nat} (hk : rk h m) : mR h m 29 = some (m + 13) := (hk.2 (13, 29, 14, 12) (List.mem_of_getElem? (i := 12) rfl)).1
theorem rk_a13 {h : mH} {m : Nat} (hk : rk h m) : mS h (m + 13) = (14, 12) := (hk.2 (13, 29, 14, 12) (List.mem_of_getElem? (i := 12) rfl)).2
theorem rk_r14 {h : mH} {m : Nat} (hk : rk h m) : mR h m 30 = some (m + 14) := (hk.2 (14, 30, 14, 12) (List.mem_of_getElem? (i := 13) rfl)).1
theorem rk_a14 {h : mH} {m : Nat} (hk : rk h m) : mS h (m + 14) = (14, 12) := (hk.2 (14, 30, 14, 12) (List.mem_of_getElem? (i := 13) rfl)).2
theorem rk_r15 {h : mH} {m : Nat} (hk : rk h m) : mR h m 31 = some (m + 15) := (hk.2 (15, 31, 14, 12) (List.mem_of_getElem? (i := 14) rfl)).1
theorem rk_a15 {h : mH} {m : Nat} (hk : rk h m) : mS h (m + 15) = (14, 12) := (hk.2 (15, 31, 14, 12) (List.mem_of_getElem? (i := 14) rfl)).2
theorem rk_r16 {h : mH} {m : Nat} (hk : rk h m) : mR h m 39 = some (m + 16) := (hk.2 (16, 39, 14, 6) (List.mem_of_getElem? (i := 15) rfl)).1
theorem rk_a16 {h : mH} {m : Nat} (hk : rk h m) : mS h (m + 16) = (14, 6) := (hk.2 (16, 39, 14, 6) (List.mem_of_getElem? (i := 15) rfl)).2
theorem rk_r17 {h : mH} {m : Nat} (hk : rk h m) : mR h m 40 = some (m + 17) := (hk.2 (17, 40, 14, 6) (List.mem_of_getElem? (i := 16) rfl)).1
theorem rk_a17 {h : mH} {m : Nat} (hk : rk h m) : mS h (m + 17) = (14, 6) := (hk.2 (17, 40, 14, 6) (List.mem_of_getElem? (i := 16) rfl)).2
theorem rk_r18 {h : mH} {m : Nat} (hk : rk h m) : mR h m 41 = some (m + 18) := (hk.2 (18, 41, 14, 6) (List.mem_of_getElem? (i := 17) rfl)).1
theorem rk_a18 {h : mH} {m : Nat} (hk : rk h m) : mS h (m + 18) = (14, 6) := (hk.2 (18, 41, 14, 6) (List.mem_of_getElem? (i := 17) rfl)).2
theorem rk_r19 {h : mH} {m : Nat} (hk : rk h m) : mR h m 42 = some (m + 19) := (hk.2 (19, 42, 14, 6) (List.mem_of_getElem? (i := 18) rfl)).1
theorem rk_a19 {h : mH} {m : Nat} (hk : rk h m) : mS h (m + 19) = (14, 6) := (hk.2 (19, 42, 14, 6) (List.mem_of_getElem? (i := 18) rfl)).2
theorem rk_r20 {h : mH} {m : Nat} (hk : rk h m) : mR h m 43 = some (m + 20) := (hk.2 (20, 43, 14, 6) (List.mem_of_getElem? (i := 19) rfl)).1
theorem rk_a20 {h : mH} {m : Nat} (hk : rk h m) : mS h (m + 20) = (14, 6) := (hk.2 (20, 43, 14, 6) (List.mem_of_getElem? (i := 19) rfl)).2
theorem rk_r21 {h : mH} {m : Nat} (hk : rk h m) : mR h m 44 = some (m + 21) := (hk.2 (21, 44, 16, 6) (List.mem_of_getElem? (i := 20) rfl)).1
theorem rk_a21 {h : mH} {m : Nat} (hk : rk h m) : mS h (m + 21) = (16, 6) := (hk.2 (21, 44, 16, 6) (List.mem_of_getElem? (i := 20) rfl)).2
theorem rk_r22 {h : mH} {m : Nat} (hk : rk h m) : mR h m 47 = some (m + 22) := (hk.2 (22, 47, 14, 6) (List.mem_of_getElem? (i := 21) rfl)).1
theorem rk_a22 {h : mH} {m : Nat} (hk : rk h m) : mS h (m + 22) = (14, 6) := (hk.2 (22, 47, 14, 6) (List.mem_of_getElem? (i := 21) rfl)).2
theorem rk_r23 {h : mH} {m : Nat} (hk : rk h m) : mR h m 50 = some (m + 23) := (hk.2 (23, 50, 14, 6) (List.mem_of_getElem? (i := 22) rfl)).1
theorem rk_a23 {h : mH} {m : Nat} (hk : rk h m) : mS h (m + 23) = (14, 6) := (hk.2 (23, 50, 14, 6) (List.mem_of_getElem? (i := 22) rfl)).2
theorem rk_r24 {h : mH} {m : Nat} (hk : rk h m) : mR h m 51 = some (m + 24) := (hk.2 (24, 51, 14, 6) (List.mem_of_getElem? (i := 23) rfl)).1
theorem rk_a24 {h : mH} {m : Nat} (hk : rk h m) : mS h (m + 24) = (14, 6) := (hk.2 (24, 51, 14, 6) (List.mem_of_getElem? (i := 23) rfl)).2
theorem rk_r25 {h : mH} {m : Nat} (hk : rk h m) : mR h m 52 = some (m + 25) := (hk.2 (25, 52, 14, 651) (List.mem_of_getElem? (i := 24) rfl)).1
theorem rk_a25 {h : mH} {m : Nat} (hk : rk h m) : mS h (m + 25) = (14, 651) := (hk.2 (25, 52, 14, 651) (List.mem_of_getElem? (i := 24) rfl)).2
theorem rk_r26 {h : mH} {m : Nat} (hk : rk h m) : mR h m 53 = some (m + 26) := (hk.2 (26, 53, 15, 100) (List.mem_of_getElem? (i := 25) rfl)).1
theorem rk_a26 {h : mH} {m : Nat} (hk : rk h m) : mS h (m + 26) = (15, 100) := (hk.2 (26, 53, 15, 100) (List.mem_of_getElem? (i := 25) rfl)).2
theorem rk_r27 {h : mH} {m : Nat} (hk : rk h m) : mR h m 55 = some (m + 27) := (hk.2 (27, 55, 14, 36) (List.mem_of_getElem? (i := 26) rfl)).1
theorem rk_a27 {h : mH} {m : Nat} (hk : rk h m) : mS h (m + 27) = (14, 36) := (hk.2 (27, 55, 14, 36) (List.mem_of_getElem? (i := 26) rfl)).2
theorem rk_r28 {h : mH} {m : Nat} (hk : rk h m) : mR h m 58 = some (m + 28) := (hk.2 (28, 58, 14, 6) (List.mem_of_getElem? (i := 27) rfl)).1
theorem rk_a28 {h : mH} {m : Nat} (hk : rk h m) : mS h (m + 28) = (14, 6) := (hk.2 (28, 58, 14, 6) (List.mem_of_getElem? (i := 27) rfl)).2
theorem rk_r29 {h : mH} {m : Nat} (hk : rk h m) : mR h m 59 = some (m + 29) := (hk.2 (29, 59, 14, 36) (List.mem_of_getElem? (i := 28) rfl)).1
theorem rk_a29 {h : mH} {m : Nat} (hk : rk h m) : mS h (m + 29) = (14, 36) := (hk.2 (29, 59, 14, 36) (List.mem_of_getElem? (i := 28) rfl)).2
theorem rk_r30 {h : mH} {m : Nat} (hk : rk h m) : mR h m 60 = some (m + 30) := (hk.2 (30, 60, 16, 3) (List.mem_of_getElem? (i := 29) rfl)).1
theorem rk_a30 {h : mH} {m : Nat} (hk : rk h m) : mS h (m + 30) = (16, 3) := (hk.2 (30, 60, 16, 3) (List.mem_of_getElem? (i := 29) rfl)).2
