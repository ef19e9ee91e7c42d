/-! WHAT CONSTRUCTORS MAKE: the heap as a list of plain cells, from B on -/
/-- kind, length, what an array is filled with, whole numbers, longs, references (as offsets from B) -/
abbrev mCe : Type := Nat × Nat × Int32 × List Int32 × List Int64 × List (Option Nat)
/-- a list with one place set, as long as it must be -/
def ps {α : Type} (d : α) : List α → Nat → α → List α
  | [], 0, x => [x]
  | [], k + 1, x => d :: ps d [] k x
  | _ :: l, 0, x => x :: l
  | a :: l, k + 1, x => a :: ps d l k x
theorem ps_get {α : Type} (d : α) : ∀ (l : List α) (k : Nat) (x : α) (j : Nat), (ps d l k x).getD j d = if j = k then x else l.getD j d
  | [], 0, x, 0 => rfl
  | [], 0, x, j + 1 => by simp [ps]
  | [], k + 1, x, 0 => by simp [ps]
  | [], k + 1, x, j + 1 => by
    have := ps_get d [] k x j
    simp [ps] at this ⊢
    exact this
  | a :: l, 0, x, 0 => rfl
  | a :: l, 0, x, j + 1 => by simp [ps]
  | a :: l, k + 1, x, 0 => by simp [ps]
  | a :: l, k + 1, x, j + 1 => by
    have := ps_get d l k x j
    simp [ps] at this ⊢
    exact this
def ceOK (h : mH) (B a : Nat) (c : mCe) : Prop :=
  mS h a = (c.1, c.2.1) ∧ (∀ k, (c.1 < 13 ∨ k < c.2.1) → mI h a k = c.2.2.2.1.getD k c.2.2.1) ∧ (∀ k, mJ h a k = c.2.2.2.2.1.getD k 0) ∧ ∀ k, mR h a k = (c.2.2.2.2.2.getD k none).map (fun o => B + o)
/-- P: the cells that were there; S: those that have come since -/
def hp (h : mH) (B : Nat) (P S : List mCe) : Prop := mE h = B + (P.length + S.length) ∧ ∀ (o : Nat) (c : mCe), (P ++ S)[o]? = some c → ceOK h B (B + o) c
theorem hp.at {h : mH} {B : Nat} {P S : List mCe} (hh : hp h B P S) {i : Nat} {c : mCe} (hc : S[i]? = some c) : ceOK h B (B + (P.length + i)) c := by
  refine hh.2 (P.length + i) c ?_
  rw [List.getElem?_append_right (by omega), show P.length + i - P.length = i by omega]
  exact hc
theorem hp.assoc {h : mH} {B : Nat} {P S T : List mCe} (hh : hp h B P (S ++ T)) : hp h B (P ++ S) T := by
  refine ⟨by rw [hh.1]; simp; omega, fun o c hc => hh.2 o c ?_⟩
  rw [← List.append_assoc]
  exact hc
theorem hp.back {h : mH} {B : Nat} {P S T : List mCe} (hh : hp h B (P ++ S) T) : hp h B P (S ++ T) := by
  refine ⟨by rw [hh.1]; simp; omega, fun o c hc => hh.2 o c ?_⟩
  rw [List.append_assoc]
  exact hc
theorem hp.new {h : mH} {B : Nat} {P S : List mCe} (hh : hp h B P S) (kd n : Nat) : hp (wN h kd n) B P (S ++ [(kd, n, 0, [], [], [])]) := by
  refine ⟨by rw [wN_E, hh.1]; simp; omega, fun o c hc => ?_⟩
  rw [← List.append_assoc] at hc
  by_cases ho : o < (P ++ S).length
  · rw [List.getElem?_append_left ho] at hc
    have hne : B + o ≠ mE h := by
      rw [hh.1]
      simp only [List.length_append] at ho
      omega
    obtain ⟨h1, h2, h3, h4⟩ := hh.2 o c hc
    refine ⟨by rw [wN_S, if_neg hne]; exact h1, fun k hk => by rw [wN_I, if_neg hne]; exact h2 k hk, fun k => by rw [wN_J, if_neg hne]; exact h3 k, fun k => by rw [wN_R, if_neg hne]; exact h4 k⟩
  · rw [List.getElem?_append_right (by omega)] at hc
    have h0 : o - (P ++ S).length = 0 := by
      have := (List.getElem?_eq_some_iff.mp hc).1
      simp only [List.length_cons, List.length_nil] at this
      omega
    rw [h0] at hc
    have hce : (kd, n, (0 : Int32), ([] : List Int32), ([] : List Int64), ([] : List (Option Nat))) = c := by simpa using hc
    subst hce
    have he : B + o = mE h := by
      rw [hh.1]
      simp only [List.length_append] at h0 ho
      omega
    refine ⟨by rw [wN_S, if_pos he], fun k _ => by rw [wN_I, if_pos he]; rfl, fun k => by rw [wN_J, if_pos he]; rfl, fun k => by rw [wN_R, if_pos he]; rfl⟩
/-- one cell is changed -/
theorem hp.one {h h' : mH} {B : Nat} {P S : List mCe} (hh : hp h B P S) {i : Nat} {c c' : mCe} (hc : S[i]? = some c) (ho : mOne (B + (P.length + i)) h h') (hk : ceOK h' B (B + (P.length + i)) c') : hp h' B P (S.set i c') := by
  have hi : i < S.length := (List.getElem?_eq_some_iff.mp hc).1
  refine ⟨by rw [ho.1, hh.1, List.length_set], fun o x hx => ?_⟩
  by_cases he : o = P.length + i
  · subst he
    rw [List.getElem?_append_right (by omega), show P.length + i - P.length = i by omega, List.getElem?_set_self hi] at hx
    cases hx
    exact hk
  · have hx2 : (P ++ S)[o]? = some x := by
      by_cases hp : o < P.length
      · rw [List.getElem?_append_left hp] at hx ⊢
        exact hx
      · rw [List.getElem?_append_right (by omega)] at hx ⊢
        rw [List.getElem?_set_ne (by omega)] at hx
        exact hx
    obtain ⟨h1, h2, h3, h4⟩ := hh.2 o x hx2
    obtain ⟨g1, g2, g3⟩ := ho.2.2 (B + o) (by omega)
    exact ⟨by rw [ho.2.1]; exact h1, fun k hk => by rw [g1]; exact h2 k hk, fun k => by rw [g2]; exact h3 k, fun k => by rw [g3]; exact h4 k⟩
theorem hp.putI {h : mH} {B : Nat} {P S : List mCe} (hh : hp h B P S) {i k : Nat} {x : Int32} {kd n : Nat} {f : Int32} {is : List Int32} {js : List Int64} {rs : List (Option Nat)} (hc : S[i]? = some (kd, n, f, is, js, rs)) : hp (wI h (B + (P.length + i)) k x) B P (S.set i (kd, n, f, ps f is k x, js, rs)) := by
  obtain ⟨h1, h2, h3, h4⟩ := hh.at hc
  refine hh.one hc (mOne_wI _ _ _ _) ⟨h1, fun j hj => ?_, h3, h4⟩
  rw [mI_wI_self]
  show upd (mI h (B + (P.length + i))) k x j = (ps f is k x).getD j f
  rw [ps_get]
  unfold upd
  by_cases hjk : j = k
  · rw [if_pos hjk, if_pos hjk]
  · rw [if_neg hjk, if_neg hjk]
    exact h2 j hj
theorem hp.putJ {h : mH} {B : Nat} {P S : List mCe} (hh : hp h B P S) {i k : Nat} {x : Int64} {kd n : Nat} {f : Int32} {is : List Int32} {js : List Int64} {rs : List (Option Nat)} (hc : S[i]? = some (kd, n, f, is, js, rs)) : hp (wJ h (B + (P.length + i)) k x) B P (S.set i (kd, n, f, is, ps 0 js k x, rs)) := by
  obtain ⟨h1, h2, h3, h4⟩ := hh.at hc
  refine hh.one hc (mOne_wJ _ _ _ _) ⟨h1, h2, fun j => ?_, h4⟩
  rw [mJ_wJ_self]
  show vp_updL (mJ h (B + (P.length + i))) k x j = (ps 0 js k x).getD j 0
  rw [ps_get]
  unfold vp_updL
  by_cases hjk : j = k
  · rw [if_pos hjk, if_pos hjk]
  · rw [if_neg hjk, if_neg hjk]
    exact h3 j
theorem hp.putR {h : mH} {B : Nat} {P S : List mCe} (hh : hp h B P S) {i k b : Nat} {kd n : Nat} {f : Int32} {is : List Int32} {js : List Int64} {rs : List (Option Nat)} (hc : S[i]? = some (kd, n, f, is, js, rs)) : hp (wR h (B + (P.length + i)) k (some (B + b))) B P (S.set i (kd, n, f, is, js, ps none rs k (some b))) := by
  obtain ⟨h1, h2, h3, h4⟩ := hh.at hc
  refine hh.one hc (mOne_wR _ _ _ _) ⟨h1, h2, h3, fun j => ?_⟩
  rw [mR_wR_self]
  show va_up (mR h (B + (P.length + i))) k (some (B + b)) j = ((ps none rs k (some b)).getD j none).map (fun o => B + o)
  rw [ps_get]
  unfold va_up
  by_cases hjk : j = k
  · rw [if_pos hjk, if_pos hjk]; rfl
  · rw [if_neg hjk, if_neg hjk]
    exact h4 j
theorem hp.fill {h : mH} {B : Nat} {P S : List mCe} (hh : hp h B P S) {i n : Nat} {v f : Int32} {js : List Int64} {rs : List (Option Nat)} (hc : S[i]? = some (14, n, f, [], js, rs)) : hp (fillI h (B + (P.length + i)) n v) B P (S.set i (14, n, v, [], js, rs)) := by
  obtain ⟨h1, h2, h3, h4⟩ := hh.at hc
  refine hh.one hc (mOne_wA _ _ _) ⟨h1, fun j hj => ?_, h3, h4⟩
  have hj2 : j < n := by
    rcases hj with q | q
    · exact absurd (show (14 : Nat) < 13 from q) (by decide)
    · exact q
  unfold fillI
  rw [mI_wA_self, if_pos hj2]
  rfl
section KRow
variable {T : mTb} {ad : mA} {M : mM} {dp : Nat} {lim : Nat × Nat} {d : Nat} {cal : mC} {Q : mZ} {pc : Nat} {L : mL} {h : mH} {z : Nat × Nat} {r st : List Value} {B : Nat} {P S : List mCe}
theorem k_new {i c : Nat} (hh : hp h B P S) (hd : decode (mMc M) pc = .ok (.new i, 3)) (ht : tCls T (mMo M) i = some c) (c1 : z.1 + 1 ≤ lim.1) (c2 : z.2 + mnf c ≤ lim.2) (k : ∀ h', hp h' B P (S ++ [(c, 0, 0, [], [], [])]) → mEv T ad M dp lim cal Q (pc + 3) L (.ref (B + (P.length + S.length)) :: st) h' (z.1 + 1, z.2 + mnf c)) : mEv T ad M dp lim cal Q pc L st h z := by
  refine e_new hd ht c1 c2 ?_
  rw [hh.1]
  exact k _ (hh.new c 0)
theorem k_newa {t : ArrayType} {n : Int32} (kd N : Nat) (hh : hp h B P S) (hd : decode (mMc M) pc = .ok (.newarray t, 2)) (ht : mArk t = some kd) (hn : ¬ n < 0) (hN : n.toNatClampNeg = N) (hN2 : N ≤ 4096) (c1 : z.1 + 1 ≤ lim.1) (c2 : z.2 + N ≤ lim.2) (k : ∀ h', hp h' B P (S ++ [(kd, N, 0, [], [], [])]) → mEv T ad M dp lim cal Q (pc + 2) L (.ref (B + (P.length + S.length)) :: r) h' (z.1 + 1, z.2 + N)) : mEv T ad M dp lim cal Q pc L (.int n :: r) h z := by
  refine e_newa kd N hd ht hn hN hN2 c1 c2 ?_
  rw [hh.1]
  exact k _ (hh.new kd N)
theorem k_newq {i : Nat} {n : Int32} (kd N : Nat) (hh : hp h B P S) (hd : decode (mMc M) pc = .ok (.anewarray i, 3)) (ht : tAnw T (mMo M) i = some kd) (hn : ¬ n < 0) (hN : n.toNatClampNeg = N) (hN2 : N ≤ 4096) (c1 : z.1 + 1 ≤ lim.1) (c2 : z.2 + N ≤ lim.2) (k : ∀ h', hp h' B P (S ++ [(kd, N, 0, [], [], [])]) → mEv T ad M dp lim cal Q (pc + 3) L (.ref (B + (P.length + S.length)) :: r) h' (z.1 + 1, z.2 + N)) : mEv T ad M dp lim cal Q pc L (.int n :: r) h z := by
  refine e_newq kd N hd ht hn hN hN2 c1 c2 ?_
  rw [hh.1]
  exact k _ (hh.new kd N)
theorem k_putI {q i c j n : Nat} {x f : Int32} {is : List Int32} {js : List Int64} {rs : List (Option Nat)} (hh : hp h B P S) (hd : decode (mMc M) pc = .ok (.putfield i, 3)) (ht : tFld T (mMo M) i = some (c, j)) (hc : S[q]? = some (c, n, f, is, js, rs)) (hy : mty c j = .int) (hfin : (mTT c j).2.2.2 = false ∨ ((mMn M).name = "<init>" ∧ c = mMo M)) (k : ∀ h', hp h' B P (S.set q (c, n, f, ps f is j x, js, rs)) → mEv T ad M dp lim cal Q (pc + 3) L r h' z) : mEv T ad M dp lim cal Q pc L (.int x :: .ref (B + (P.length + q)) :: r) h z :=
  e_putI hd ht (by rw [(hh.at hc).1]) hy hfin (k _ (hh.putI hc))
theorem k_putZ {q i c j n : Nat} {x f : Int32} {is : List Int32} {js : List Int64} {rs : List (Option Nat)} (hh : hp h B P S) (hd : decode (mMc M) pc = .ok (.putfield i, 3)) (ht : tFld T (mMo M) i = some (c, j)) (hc : S[q]? = some (c, n, f, is, js, rs)) (hy : mty c j = .boolean) (hx : x = 0 ∨ x = 1) (hfin : (mTT c j).2.2.2 = false ∨ ((mMn M).name = "<init>" ∧ c = mMo M)) (k : ∀ h', hp h' B P (S.set q (c, n, f, ps f is j x, js, rs)) → mEv T ad M dp lim cal Q (pc + 3) L r h' z) : mEv T ad M dp lim cal Q pc L (.int x :: .ref (B + (P.length + q)) :: r) h z :=
  e_putZ hd ht (by rw [(hh.at hc).1]) hy hx hfin (k _ (hh.putI hc))
theorem k_putJ {q i c j n : Nat} {x : Int64} {f : Int32} {is : List Int32} {js : List Int64} {rs : List (Option Nat)} (hh : hp h B P S) (hd : decode (mMc M) pc = .ok (.putfield i, 3)) (ht : tFld T (mMo M) i = some (c, j)) (hc : S[q]? = some (c, n, f, is, js, rs)) (hy : mty c j = .long) (hfin : (mTT c j).2.2.2 = false ∨ ((mMn M).name = "<init>" ∧ c = mMo M)) (k : ∀ h', hp h' B P (S.set q (c, n, f, is, ps 0 js j x, rs)) → mEv T ad M dp lim cal Q (pc + 3) L r h' z) : mEv T ad M dp lim cal Q pc L (.long x :: .ref (B + (P.length + q)) :: r) h z :=
  e_putJ hd ht (by rw [(hh.at hc).1]) hy hfin (k _ (hh.putJ hc))
theorem k_putR {q i c j n b : Nat} {f : Int32} {is : List Int32} {js : List Int64} {rs : List (Option Nat)} {ty : FieldType} (hh : hp h B P S) (hd : decode (mMc M) pc = .ok (.putfield i, 3)) (ht : tFld T (mMo M) i = some (c, j)) (hc : S[q]? = some (c, n, f, is, js, rs)) (hy : mty c j = ty) (hty : (∃ n, ty = .object n) ∨ ∃ t, ty = .array t) (hfin : (mTT c j).2.2.2 = false ∨ ((mMn M).name = "<init>" ∧ c = mMo M)) (k : ∀ h', hp h' B P (S.set q (c, n, f, is, js, ps none rs j (some b))) → mEv T ad M dp lim cal Q (pc + 3) L r h' z) : mEv T ad M dp lim cal Q pc L (.ref (B + b) :: .ref (B + (P.length + q)) :: r) h z :=
  e_putR hd ht (by rw [(hh.at hc).1]) hy hty hfin (k _ (hh.putR hc))
theorem k_ast {q n kd b kc : Nat} {x f : Int32} {is : List Int32} {js : List Int64} {rs : List (Option Nat)} {nc : Nat} {fc : Int32} {ic : List Int32} {jc : List Int64} {rc : List (Option Nat)} (qb j : Nat) (hh : hp h B P S) (hd : decode (mMc M) pc = .ok (.aastore, 1)) (hc : S[q]? = some (kd, n, f, is, js, rs)) (h17 : 17 ≤ kd) (h21 : kd < 21) (hb : S[qb]? = some (kc, nc, fc, ic, jc, rc)) (hbb : b = P.length + qb) (hkc : kc < 13) (hm : mat kd = .object (mCn kc)) (hi : vp_in x n) (hj : x.toNatClampNeg = j) (k : ∀ h', hp h' B P (S.set q (kd, n, f, is, js, ps none rs j (some b))) → mEv T ad M dp lim cal Q (pc + 1) L r h' z) : mEv T ad M dp lim cal Q pc L (.ref (B + b) :: .int x :: .ref (B + (P.length + q)) :: r) h z := by
  subst hbb
  exact e_ast j hd (hh.at hc).1 h17 h21 (hh.at hb).1 hkc hm hi hj (k _ (hh.putR hc))
theorem k_ist {q n : Nat} {i x f : Int32} {is : List Int32} {js : List Int64} {rs : List (Option Nat)} (j : Nat) (hh : hp h B P S) (hd : decode (mMc M) pc = .ok (.iastore, 1)) (hc : S[q]? = some (14, n, f, is, js, rs)) (hi : vp_in i n) (hj : i.toNatClampNeg = j) (k : ∀ h', hp h' B P (S.set q (14, n, f, ps f is j x, js, rs)) → mEv T ad M dp lim cal Q (pc + 1) L r h' z) : mEv T ad M dp lim cal Q pc L (.int x :: .int i :: .ref (B + (P.length + q)) :: r) h z :=
  e_ist j hd (hh.at hc).1 hi hj (k _ (hh.putI hc))
theorem k_getR {q i c j n b : Nat} {f : Int32} {is : List Int32} {js : List Int64} {rs : List (Option Nat)} (hh : hp h B P S) (hd : decode (mMc M) pc = .ok (.getfield i, 3)) (ht : tFld T (mMo M) i = some (c, j)) (hc : S[q]? = some (c, n, f, is, js, rs)) (hv : mfv h (B + (P.length + q)) c j = va_rf (mR h (B + (P.length + q)) j)) (hb : rs.getD j none = some b) (k : mEv T ad M dp lim cal Q (pc + 3) L (.ref (B + b) :: r) h z) : mEv T ad M dp lim cal Q pc L (.ref (B + (P.length + q)) :: r) h z :=
  e_get (.ref (B + b)) hd ht (by rw [(hh.at hc).1]) (by rw [hv, (hh.at hc).2.2.2 j, hb]; rfl) k
theorem k_fill {i : Nat} {q n : Nat} {v f : Int32} {js : List Int64} {rs : List (Option Nat)} (hh : hp h B P S) (hd : decode (mMc M) pc = .ok (.invokestatic i, 3)) (ht : tMet TB0 (mMo M) i = some (1, M_J7_fill_53178)) (h8 : (r.map fun v => v.category).sum ≤ 8) (hc : S[q]? = some (14, n, f, [], js, rs)) (hn : n < 2 ^ 31) (z1 : z.1 ≤ lim.1) (z2 : z.2 ≤ lim.2) (k : ∀ h', hp h' B P (S.set q (14, n, v, [], js, rs)) → mEv TB0 ad M dp lim (mCal TB0 ad (d + 1)) Q (pc + 3) L r h' z) : mEv TB0 ad M dp lim (mCal TB0 ad (d + 1)) Q pc L (.int v :: .ref (B + (P.length + q)) :: r) h z :=
  e_callS [.ref (B + (P.length + q)), .int v] hd ht rfl h8 z1 z2 rfl (sp_fill (hh.at hc).1 hn (k _ (hh.fill hc)))
/-- a constructor: the object is the last cell; it is filled, and further ones come -/
def mKo (ad : mA) (d B : Nat) (N : mM) (c mc ms : Nat) (R : Nat → List mCe) : Prop := ∀ (P : List mCe) (h : mH) (Q : mQ), hp h B P [(c, 0, 0, [], [], [])] → (∀ h', hp h' B P (R P.length) → Q none h') → mCal TB0 ad d N [.ref (B + P.length)] h mc ms Q
theorem k_ctor {N : mM} {i c mc ms : Nat} {R : Nat → List mCe} (hh : hp h B P (S ++ [(c, 0, 0, [], [], [])])) (hd : decode (mMc M) pc = .ok (.invokespecial i, 3)) (ht : tMet TB0 (mMo M) i = some (2, N) ∨ tMet TB0 (mMo M) i = some (3, N)) (hA : 0 = mMp N) (h8 : (r.map fun v => v.category).sum ≤ 8) (c1 : z.1 + mc ≤ lim.1) (c2 : z.2 + ms ≤ lim.2) (hN : mKo ad d B N c mc ms R) (k : ∀ h', hp h' B P (S ++ R (P.length + S.length)) → mEv TB0 ad M dp lim (mCal TB0 ad d) Q (pc + 3) L r h' (z.1 + mc, z.2 + ms)) : mEv TB0 ad M dp lim (mCal TB0 ad d) Q pc L (.ref (B + (P.length + S.length)) :: r) h z := by
  refine e_callI [] hd ht hA h8 c1 c2 rfl ?_
  have h1 := hN (P ++ S) h (fun v h' => mEv TB0 ad M dp lim (mCal TB0 ad d) Q (pc + 3) L (v.toList ++ r) h' (z.1 + mc, z.2 + ms)) hh.assoc (fun h' hh' => k h' (by have := hh'.back; rw [List.length_append] at this; exact this))
  rw [List.length_append] at h1
  exact h1
end KRow
