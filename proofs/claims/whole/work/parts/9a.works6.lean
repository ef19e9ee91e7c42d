/-! WORKS: what is ahead -/
theorem dX9_sumAhead_0 : decode cX9_sumAhead 0 = .ok (.aload_n 0, 1) := by decide +kernel
theorem dX9_sumAhead_1 : decode cX9_sumAhead 1 = .ok (.getfield 32, 3) := by decide +kernel
theorem dX9_sumAhead_4 : decode cX9_sumAhead 4 = .ok (.iconst 0, 1) := by decide +kernel
theorem dX9_sumAhead_5 : decode cX9_sumAhead 5 = .ok (.invokestatic 46, 3) := by decide +kernel
theorem dX9_sumAhead_8 : decode cX9_sumAhead 8 = .ok (.iconst 5, 1) := by decide +kernel
theorem dX9_sumAhead_9 : decode cX9_sumAhead 9 = .ok (.istore_n 2, 1) := by decide +kernel
theorem dX9_sumAhead_10 : decode cX9_sumAhead 10 = .ok (.iload_n 2, 1) := by decide +kernel
theorem dX9_sumAhead_11 : decode cX9_sumAhead 11 = .ok (.ifCond .lt 50, 3) := by decide +kernel
theorem dX9_sumAhead_14 : decode cX9_sumAhead 14 = .ok (.aload_n 0, 1) := by decide +kernel
theorem dX9_sumAhead_15 : decode cX9_sumAhead 15 = .ok (.getfield 32, 3) := by decide +kernel
theorem dX9_sumAhead_18 : decode cX9_sumAhead 18 = .ok (.iload_n 2, 1) := by decide +kernel
theorem dX9_sumAhead_19 : decode cX9_sumAhead 19 = .ok (.aload_n 0, 1) := by decide +kernel
theorem dX9_sumAhead_20 : decode cX9_sumAhead 20 = .ok (.getfield 32, 3) := by decide +kernel
theorem dX9_sumAhead_23 : decode cX9_sumAhead 23 = .ok (.iload_n 2, 1) := by decide +kernel
theorem dX9_sumAhead_24 : decode cX9_sumAhead 24 = .ok (.iconst 1, 1) := by decide +kernel
theorem dX9_sumAhead_25 : decode cX9_sumAhead 25 = .ok (.iadd, 1) := by decide +kernel
theorem dX9_sumAhead_26 : decode cX9_sumAhead 26 = .ok (.iaload, 1) := by decide +kernel
theorem dX9_sumAhead_27 : decode cX9_sumAhead 27 = .ok (.aload_n 1, 1) := by decide +kernel
theorem dX9_sumAhead_28 : decode cX9_sumAhead 28 = .ok (.iload_n 2, 1) := by decide +kernel
theorem dX9_sumAhead_29 : decode cX9_sumAhead 29 = .ok (.invokevirtual 68, 3) := by decide +kernel
theorem dX9_sumAhead_32 : decode cX9_sumAhead 32 = .ok (.ifCond .eq 20, 3) := by decide +kernel
theorem dX9_sumAhead_35 : decode cX9_sumAhead 35 = .ok (.aload_n 0, 1) := by decide +kernel
theorem dX9_sumAhead_36 : decode cX9_sumAhead 36 = .ok (.iload_n 2, 1) := by decide +kernel
theorem dX9_sumAhead_37 : decode cX9_sumAhead 37 = .ok (.invokevirtual 72, 3) := by decide +kernel
theorem dX9_sumAhead_40 : decode cX9_sumAhead 40 = .ok (.ifCond .eq 12, 3) := by decide +kernel
theorem dX9_sumAhead_43 : decode cX9_sumAhead 43 = .ok (.aload_n 1, 1) := by decide +kernel
theorem dX9_sumAhead_44 : decode cX9_sumAhead 44 = .ok (.getfield 75, 3) := by decide +kernel
theorem dX9_sumAhead_47 : decode cX9_sumAhead 47 = .ok (.iload_n 2, 1) := by decide +kernel
theorem dX9_sumAhead_48 : decode cX9_sumAhead 48 = .ok (.iaload, 1) := by decide +kernel
theorem dX9_sumAhead_49 : decode cX9_sumAhead 49 = .ok (.goto 4, 3) := by decide +kernel
theorem dX9_sumAhead_52 : decode cX9_sumAhead 52 = .ok (.iconst 0, 1) := by decide +kernel
theorem dX9_sumAhead_53 : decode cX9_sumAhead 53 = .ok (.iadd, 1) := by decide +kernel
theorem dX9_sumAhead_54 : decode cX9_sumAhead 54 = .ok (.iastore, 1) := by decide +kernel
theorem dX9_sumAhead_55 : decode cX9_sumAhead 55 = .ok (.iinc 2 (-1), 3) := by decide +kernel
theorem dX9_sumAhead_58 : decode cX9_sumAhead 58 = .ok (.goto (-48), 3) := by decide +kernel
theorem dX9_sumAhead_61 : decode cX9_sumAhead 61 = .ok (.return_, 1) := by decide +kernel
theorem dX9_anybodyCuts_0 : decode cX9_anybodyCuts 0 = .ok (.iconst 0, 1) := by decide +kernel
theorem dX9_anybodyCuts_1 : decode cX9_anybodyCuts 1 = .ok (.istore_n 2, 1) := by decide +kernel
theorem dX9_anybodyCuts_2 : decode cX9_anybodyCuts 2 = .ok (.iconst 0, 1) := by decide +kernel
theorem dX9_anybodyCuts_3 : decode cX9_anybodyCuts 3 = .ok (.istore_n 3, 1) := by decide +kernel
theorem dX9_anybodyCuts_4 : decode cX9_anybodyCuts 4 = .ok (.iload_n 3, 1) := by decide +kernel
theorem dX9_anybodyCuts_5 : decode cX9_anybodyCuts 5 = .ok (.bipush 6, 2) := by decide +kernel
theorem dX9_anybodyCuts_7 : decode cX9_anybodyCuts 7 = .ok (.if_icmp .ge 27, 3) := by decide +kernel
theorem dX9_anybodyCuts_10 : decode cX9_anybodyCuts 10 = .ok (.iload_n 2, 1) := by decide +kernel
theorem dX9_anybodyCuts_11 : decode cX9_anybodyCuts 11 = .ok (.ifCond .ne 23, 3) := by decide +kernel
theorem dX9_anybodyCuts_14 : decode cX9_anybodyCuts 14 = .ok (.aload_n 0, 1) := by decide +kernel
theorem dX9_anybodyCuts_15 : decode cX9_anybodyCuts 15 = .ok (.getfield 25, 3) := by decide +kernel
theorem dX9_anybodyCuts_18 : decode cX9_anybodyCuts 18 = .ok (.iload_n 3, 1) := by decide +kernel
theorem dX9_anybodyCuts_19 : decode cX9_anybodyCuts 19 = .ok (.bipush 64, 2) := by decide +kernel
theorem dX9_anybodyCuts_21 : decode cX9_anybodyCuts 21 = .ok (.imul, 1) := by decide +kernel
theorem dX9_anybodyCuts_22 : decode cX9_anybodyCuts 22 = .ok (.iconst 1, 1) := by decide +kernel
theorem dX9_anybodyCuts_23 : decode cX9_anybodyCuts 23 = .ok (.iload_n 1, 1) := by decide +kernel
theorem dX9_anybodyCuts_24 : decode cX9_anybodyCuts 24 = .ok (.ishl, 1) := by decide +kernel
theorem dX9_anybodyCuts_25 : decode cX9_anybodyCuts 25 = .ok (.iadd, 1) := by decide +kernel
theorem dX9_anybodyCuts_26 : decode cX9_anybodyCuts 26 = .ok (.baload, 1) := by decide +kernel
theorem dX9_anybodyCuts_27 : decode cX9_anybodyCuts 27 = .ok (.istore_n 2, 1) := by decide +kernel
theorem dX9_anybodyCuts_28 : decode cX9_anybodyCuts 28 = .ok (.iinc 3 1, 3) := by decide +kernel
theorem dX9_anybodyCuts_31 : decode cX9_anybodyCuts 31 = .ok (.goto (-27), 3) := by decide +kernel
theorem dX9_anybodyCuts_34 : decode cX9_anybodyCuts 34 = .ok (.iload_n 2, 1) := by decide +kernel
theorem dX9_anybodyCuts_35 : decode cX9_anybodyCuts 35 = .ok (.ireturn, 1) := by decide +kernel
set_option maxRecDepth 20000 in
theorem tm_9_46 : tMet TB0 9 46 = some (1, M_J7_fill_53178) := rfl
set_option maxRecDepth 20000 in
theorem tm_9_68 : tMet TB0 9 68 = some (0, M_X2_hasCloth) := rfl
set_option maxRecDepth 20000 in
theorem tm_9_72 : tMet TB0 9 72 = some (0, M_X9_anybodyCuts) := rfl
def mgN (h : mH) (y : Nat) (g : Int → Int) (D E : Int) : Prop := ∀ d s : Int, 0 ≤ d → d < 6 → 0 ≤ s → s < 64 → (d < D ∨ (d = D ∧ s < E)) → (rI h (y + 4) (d * 64 + s) = 1 ∧ mgP g d s) ∨ (rI h (y + 4) (d * 64 + s) = 0 ∧ ¬ mgP g d s)
def mgT (h : mH) (y : Nat) (g : Int → Int) : Prop := ∀ d s : Int, 0 ≤ d → d < 6 → 0 ≤ s → s < 64 → (rI h (y + 4) (d * 64 + s) = 1 ∧ mgP g d s) ∨ (rI h (y + 4) (d * 64 + s) = 0 ∧ ¬ mgP g d s)
theorem mgT_c {S : Nat → Nat → Prop} {h h1 : mH} {y : Nat} {g : Int → Int} (f : frm S h h1) (z : ∀ a k, a = y + 4 → ¬ S a k) (H : mgT h y g) : mgT h1 y g := fun d s a b c e => by
  rw [frm_r f (z _ _ rfl)]; exact H d s a b c e
theorem mgT_b {h : mH} {y : Nat} {g : Int → Int} (H : mgT h y g) {d s : Int} (h0 : 0 ≤ d) (h1 : d < 6) (s0 : 0 ≤ s) (s1 : s < 64) : rI h (y + 4) (d * 64 + s) = 0 ∨ rI h (y + 4) (d * 64 + s) = 1 := by
  rcases H d s h0 h1 s0 s1 with q | q
  · exact Or.inr q.1
  · exact Or.inl q.1
theorem mgT_1 {h : mH} {y : Nat} {g : Int → Int} (H : mgT h y g) {d s : Int} (h0 : 0 ≤ d) (h1 : d < 6) (s0 : 0 ≤ s) (s1 : s < 64) (e : rI h (y + 4) (d * 64 + s) ≠ 0) : mgP g d s := by
  rcases H d s h0 h1 s0 s1 with q | q
  · exact q.2
  · exact absurd q.1 e
theorem mgT_0 {h : mH} {y : Nat} {g : Int → Int} (H : mgT h y g) {d s : Int} (h0 : 0 ≤ d) (h1 : d < 6) (s0 : 0 ≤ s) (s1 : s < 64) (e : rI h (y + 4) (d * 64 + s) = 0) : ¬ mgP g d s := by
  rcases H d s h0 h1 s0 s1 with q | q
  · omega
  · exact q.2
def anP (g : Int → Int) (c : Int) : Prop := ∃ d, (0 ≤ d ∧ d < 6) ∧ mgP g d (shlZ 1 c)
def stpA (g U : Int → Int) (x : Int) : Prop := (U x = U (x + 1) + pr g x ∧ x < nc g) ∨ (U x = U (x + 1) ∧ ¬ (x < nc g ∧ anP g x))
def ahI (g U : Int → Int) (c : Int) : Prop := U 6 = 0 ∧ (∀ x, c < x → 0 ≤ x → x < 6 → stpA g U x) ∧ ∀ x, c < x → 0 ≤ x → x ≤ 6 → 0 ≤ U x ∧ U x ≤ 20 * (6 - x)
theorem ahI_s {g U U' : Int → Int} {c : Int} (w : wfC g) (c0 : 0 ≤ c) (c1 : c < 6) (H : ahI g U c) (eo : ∀ x, c < x → x ≤ 6 → U' x = U x) (q : (U' c = U (c + 1) + pr g c ∧ c < nc g) ∨ (U' c = U (c + 1) + 0 ∧ ¬ (c < nc g ∧ anP g c))) : ahI g U' (c + (-1)) := by
  have b1 := H.2.2 (c + 1) (by omega) (by omega) (by omega)
  refine ⟨by rw [eo 6 (by omega) (by omega)]; exact H.1, fun x a b d => ?_, fun x a b d => ?_⟩
  · by_cases z : x = c
    · unfold stpA
      rw [z, eo (c + 1) (by omega) (by omega)]
      rcases q with q | q
      · exact Or.inl q
      · exact Or.inr ⟨by omega, q.2⟩
    · have := H.2.1 x (by omega) b d
      unfold stpA at this ⊢
      rw [eo x (by omega) (by omega), eo (x + 1) (by omega) (by omega)]
      exact this
  · by_cases z : x = c
    · rw [z]
      rcases q with q | q
      · have := wC_c w c0 q.2; omega
      · omega
    · rw [eo x (by omega) d]; exact H.2.2 x (by omega) b d
def abU (h : mH) (y : Nat) (g : Int → Int) : Prop := ahI g (fun x => rI h (y + 6) x) (-1)
theorem abU_c {S : Nat → Nat → Prop} {h h1 : mH} {y : Nat} {g : Int → Int} (f : frm S h h1) (z : ∀ a k, a = y + 6 → ¬ S a k) (H : abU h y g) : abU h1 y g := by
  have e : (fun x => rI h1 (y + 6) x) = (fun x => rI h (y + 6) x) := funext (fun x => frm_r f (z _ _ rfl))
  unfold abU
  rw [e]; exact H
theorem abU_b {h : mH} {y : Nat} {g : Int → Int} (H : abU h y g) {c : Int} (c0 : 0 ≤ c) (c1 : c ≤ 6) : 0 ≤ rI h (y + 6) c ∧ rI h (y + 6) c ≤ 120 := by
  have : 0 ≤ rI h (y + 6) c ∧ rI h (y + 6) c ≤ 20 * (6 - c) := H.2.2 c (by omega) c0 c1
  omega
theorem an_ok {g : Int → Int} {d x : Int} (x0 : 0 ≤ x) (x1 : x < nc g) (h6 : nc g ≤ 6) (d0 : 0 ≤ d ∧ d < 6) (u : upv g d ≠ -1) (h : ha g x ≤ powW g d (upv g d) 0) : anP g x := by
  have hs : ∀ o, 0 ≤ o → (hasZ (shlZ 1 x) o ↔ o = x) := fun o a => has_b1 x0 a
  refine ⟨d, d0, fun c a b p => ?_⟩
  have e := (hs c a).mp p
  subst e
  refine ⟨fun o a1 b1 p1 n1 => absurd ((hs o a1).mp p1) n1, u, ⟨x0, x1⟩, ?_⟩
  have z : ahG g (fun o => mbS g (shlZ 1 c) o) c = sm6 (fun _ => 0) := sm6_e (fun o a1 b1 => bZ_0 (fun w => by
    have := (hs o a1).mp w.1.2
    have l := w.2
    rw [this] at l
    omega))
  rw [z]
  exact h
/-- no code below a prefix brings more than the prefix and what is ahead -/
theorem as_ub {g w U : Int → Int} {c k : Int} (wc : wfC g) (hn : nd g ≤ 6) (h6 : nc g ≤ 6) (H : ahI g U (-1)) (c0 : 0 ≤ c) (c1 : c ≤ nc g) (hw : ∀ x, 0 ≤ x → x < c → 0 ≤ w x ∧ w x ≤ 6) (k0 : cdZ w c ≤ k) (k1 : k < cdZ w c + scZ c) (v : vaW g k) : suW g k ≤ suV g w c + U c := by
  have step : ∀ n : Nat, c + n ≤ nc g → suV g (dgZ k) (c + n) + U (c + n) ≤ suV g (dgZ k) c + U c := by
    intro n
    induction n with
    | zero => intro _; rw [show c + ((0 : Nat) : Int) = c by omega]; exact Int.le_refl _
    | succ n ih =>
      intro hh
      have ih := ih (by omega)
      rw [show c + ((n + 1 : Nat) : Int) = (c + n) + 1 by omega, suV_s (by omega)]
      have pb := wC_c wc (show 0 ≤ c + (n : Int) by omega) (show c + (n : Int) < nc g by omega)
      rcases H.2.1 (c + n) (by omega) (by omega) (by omega) with q | q
      · split <;> omega
      · have od := v.2 (c + n) (by omega) (by omega)
        have d6 : dgZ k (c + n) = 6 := by
          rcases od with z | ⟨z1, z2, z3⟩
          · exact z
          · exact absurd ⟨by omega, an_ok (by omega) (by omega) h6 (by omega) z2 (okG_1 z3 (by omega) (by omega) ⟨by omega, rfl⟩)⟩ q.2
        rw [if_neg (by omega)]
        omega
  have s := step (nc g - c).toNat (by omega)
  rw [show c + ((nc g - c).toNat : Int) = nc g by omega] at s
  have b := H.2.2 (nc g) (by omega) (by omega) h6
  have e : suV g (dgZ k) c = suV g w c := suV_e (fun x a e => dg_in c0 (by omega) hw k0 k1 a e)
  have f : suW g k = suV g (dgZ k) (nc g) := rfl
  omega
theorem as_iff {g w : Int → Int} {d c S : Int} (h6 : nc g ≤ 6) (c0 : 0 ≤ c) (c1 : c < nc g) (u : upv g d ≠ -1) (hS : ∀ o, 0 ≤ o → o < 6 → (hasZ S o ↔ (o < c ∧ w o = d) ∨ o = c)) : mgP g d S ↔ okG g d (fun o => o < c + 1 ∧ setG w c d o = d) := by
  have e : ∀ o, 0 ≤ o → o < 6 → (mbS g S o ↔ (o < c + 1 ∧ setG w c d o = d)) := fun o a b => by
    unfold mbS setG
    rw [hS o a b]
    by_cases q : o = c
    · rw [if_pos q]
      exact ⟨fun _ => ⟨by omega, rfl⟩, fun _ => ⟨by omega, Or.inr q⟩⟩
    · rw [if_neg q]
      exact ⟨fun z => ⟨by omega, (z.2.resolve_right q).2⟩, fun z => ⟨by omega, Or.inl ⟨by omega, z.2⟩⟩⟩
  constructor
  · intro h
    refine okG_e e (fun x a b p => ?_)
    obtain ⟨h1, h2⟩ := h x a p.1 p.2
    exact ⟨fun o a1 b1 p1 n1 => h1 o a1 p1.1 p1.2 n1, h2.2.2⟩
  · intro h x a b p
    have h := okG_e (fun o a b => (e o a b).symm) h
    obtain ⟨h1, h2⟩ := h x a (by omega) ⟨b, p⟩
    exact ⟨fun o a1 b1 p1 n1 => h1 o a1 (by omega) ⟨b1, p1⟩ n1, u, ⟨a, b⟩, h2⟩
theorem as_ok {g w : Int → Int} {d c S : Int} (h6 : nc g ≤ 6) (c0 : 0 ≤ c) (c1 : c < nc g) (hd : 0 ≤ d ∧ d < nd g) (u : upv g d ≠ -1) (hS : ∀ o, 0 ≤ o → o < 6 → (hasZ S o ↔ (o < c ∧ w o = d) ∨ o = c)) (h : mgP g d S) : okD g (setG w c d) c := by
  have e : setG w c d c = d := if_pos rfl
  unfold okD
  rw [e]
  exact Or.inr ⟨hd, u, (as_iff h6 c0 c1 u hS).mp h⟩
theorem as_no {g w : Int → Int} {d c S : Int} (h6 : nc g ≤ 6) (c0 : 0 ≤ c) (c1 : c < nc g) (d6 : d ≠ 6) (hS : ∀ o, 0 ≤ o → o < 6 → (hasZ S o ↔ (o < c ∧ w o = d) ∨ o = c)) (h : upv g d = -1 ∨ ¬ mgP g d S) : ¬ okD g (setG w c d) c := by
  have e : setG w c d c = d := if_pos rfl
  unfold okD
  rw [e]
  rintro (q | ⟨q1, q2, q3⟩)
  · exact d6 q
  · rcases h with h | h
    · exact q2 h
    · exact h ((as_iff h6 c0 c1 q2 hS).mpr q3)
set_option maxHeartbeats 400000 in
theorem zp_X9_anybodyCuts {ad : mA} {dd : Nat} {h : mH} {Q : mQ} {y : Nat} {g : Int → Int} (hk : wkk h y) (HT : mgT h y g)  (c : Int) (c_r : -2147483648 ≤ c ∧ c < 2147483648) (p1 : 0 ≤ c ∧ c < 6) (kq : ∀ v : Int, ((v = 1 ∧ anP g c) ∨ (v = 0 ∧ ¬ anP g c)) → Q (some (.int (zI v))) h) : mCal TB0 ad (dd + 1) M_X9_anybodyCuts [.ref y, .int (zI c)] h 0 0 Q := by
  refine ⟨Nat.le_of_ble_eq_true rfl, ?_⟩
  show mEv TB0 ad M_X9_anybodyCuts (dd + 1) (0, 0) (mCal TB0 ad (dd + 0)) (fun v h' z => z.1 = 0 ∧ Q v h') 0 [some (.ref y), some (.int (zI c)), none, none] [] h (0, 0)
  refine z_iconst (0) dX9_anybodyCuts_0 rfl ?_
  refine e_istore_n (L' := [_, _, _, _]) dX9_anybodyCuts_1 (Nat.le_of_ble_eq_true rfl) rfl ?_
  refine z_iconst (0) dX9_anybodyCuts_2 rfl ?_
  refine e_istore_n (L' := [_, _, _, _]) dX9_anybodyCuts_3 (Nat.le_of_ble_eq_true rfl) rfl ?_
  have lp1 : ∀ (n1 : Nat) (b d : Int), (6 - d).toNat = n1 → (0 ≤ d ∧ d ≤ 6) → (b = 0 ∨ b = 1) → (b ≠ 0 → anP g c) → (b = 0 → ∀ e, 0 ≤ e → e < d → ¬ mgP g e (shlZ 1 c)) → mEv TB0 ad M_X9_anybodyCuts (dd + 1) (0, 0) (mCal TB0 ad (dd + 0)) (fun v h' z => z.1 = 0 ∧ Q v h') 4 [some (.ref y), some (.int (zI c)), some (.int (zI b)), some (.int (zI d))] [] h (0, 0) := by
    intro n1
    induction n1 using Nat.strongRecOn with
    | ind n1 ih1 =>
    intro b d  hn1  I1 I2 I3 I4
    refine e_iload_n dX9_anybodyCuts_4 rfl ?_
    refine z_bipush (6) dX9_anybodyCuts_5 rfl ?_
    refine z_icmp_ge 34 dX9_anybodyCuts_7 rfl ⟨by omega, by omega⟩ ⟨by omega, by omega⟩ (fun c2 => ?_) (fun c2 => ?_)
    · skip
      refine e_iload_n dX9_anybodyCuts_34 rfl ?_
      refine z_bret dX9_anybodyCuts_35 rfl (by omega) ⟨rfl, ?_⟩
      refine kq _ ?_
      rcases I2 with q | q
      · exact Or.inr ⟨q, fun ⟨e, he, pe⟩ => I4 q e he.1 (by omega) pe⟩
      · exact Or.inl ⟨q, I3 (by omega)⟩
    · skip
      refine e_iload_n dX9_anybodyCuts_10 rfl ?_
      refine z_if_ne 34 dX9_anybodyCuts_11 rfl ⟨by omega, by omega⟩ (fun c3 => ?_) (fun c3 => ?_)
      · skip
        refine e_iload_n dX9_anybodyCuts_34 rfl ?_
        refine z_bret dX9_anybodyCuts_35 rfl (by omega) ⟨rfl, ?_⟩
        refine kq _ ?_
        rcases I2 with q | q
        · exact Or.inr ⟨q, fun ⟨e, he, pe⟩ => I4 q e he.1 (by omega) pe⟩
        · exact Or.inl ⟨q, I3 (by omega)⟩
      · skip
        have sb := shlZ_b 1 c
        refine e_aload_n dX9_anybodyCuts_14 rfl ?_
        refine e_get (.ref (y + 4)) dX9_anybodyCuts_15 tf_9_25 (congrArg Prod.fst (wk_s0 hk)) (congrArg va_rf (wk_r0_4 hk)) ?_
        refine e_iload_n dX9_anybodyCuts_18 rfl ?_
        refine z_bipush (64) dX9_anybodyCuts_19 rfl ?_
        refine z_imul dX9_anybodyCuts_21 ?_
        refine z_iconst (1) dX9_anybodyCuts_22 rfl ?_
        refine e_iload_n dX9_anybodyCuts_23 rfl ?_
        refine z_ishl dX9_anybodyCuts_24 (by omega) (by omega) (by omega) (by omega) ?_
        have y4 := shlZ_b 1 c
        refine z_iadd dX9_anybodyCuts_25 ?_
        refine z_zld (rI h (y + 4) ((d * 64) + (shlZ 1 c))) dX9_anybodyCuts_26 (wk_s4 hk) (by decide) (by omega) (by omega) rfl ?_
        have y5 := rI_i h (y + 4) ((d * 64) + (shlZ 1 c))
        refine e_istore_n (L' := [_, _, _, _]) dX9_anybodyCuts_27 (Nat.le_of_ble_eq_true rfl) rfl ?_
        refine z_iinc (L' := [_, _, _, _]) dX9_anybodyCuts_28 rfl rfl ?_
        refine e_goto 4 dX9_anybodyCuts_31 rfl ?_
        exact ih1 _ (by omega) (rI h (y + 4) ((d * 64) + (shlZ 1 c))) (d + 1)  rfl  (by omega) (mgT_b HT (by omega) (by omega) (by omega) (by omega)) (fun z => ⟨d, by omega, mgT_1 HT (by omega) (by omega) (by omega) (by omega) z⟩) (fun z e a b => by
                  by_cases q : e = d
                  · rw [q]; exact mgT_0 HT (by omega) (by omega) (by omega) (by omega) z
                  · exact I4 (by omega) e a (by omega))
  exact lp1 _ 0 0  rfl  (by omega) (by omega) (fun z => absurd rfl z) (fun _ e a b => by omega)
set_option maxHeartbeats 1000000 in
theorem zp_X9_sumAhead {ad : mA} {dd : Nat} {h : mH} {Q : mQ} {y f : Nat} {g : Int → Int} (hk : wkk h y) (hk1 : fgk h f) (HF : isF h f g) (HT : mgT h y g)   (pf : y + 7 ≤ f ∨ f + 16 ≤ y) (kq : ∀ h1, frm (fun a k => a = y + 6) h h1 → (abU h1 y g) → Q none h1) : mCal TB0 ad (dd + 2) M_X9_sumAhead [.ref y, .ref f] h 0 0 Q := by
  refine ⟨Nat.le_of_ble_eq_true rfl, ?_⟩
  show mEv TB0 ad M_X9_sumAhead (dd + 2) (0, 0) (mCal TB0 ad (dd + 1)) (fun v h' z => z.1 = 0 ∧ Q v h') 0 [some (.ref y), some (.ref f), none] [] h (0, 0)
  have FR0 : frm (fun a k => a = y + 6) h h := frm_0 h
  have w1 := isF_n HF
  have w2 := isF_nd HF
  have w3 := isF_nu HF
  have w4 := isF_nc HF
  have W := isF_w HF
  refine e_aload_n dX9_sumAhead_0 rfl ?_
  refine e_get (.ref (y + 6)) dX9_sumAhead_1 tf_9_32 (congrArg Prod.fst (wk_s0 hk)) (congrArg va_rf (wk_r0_6 hk)) ?_
  refine z_iconst (0) dX9_sumAhead_4 rfl ?_
  refine e_callS [.ref _, .int _] dX9_sumAhead_5 tm_9_46 rfl (Nat.le_of_ble_eq_true rfl) (Nat.le_refl _) (Nat.le_refl _) rfl (zp_fill (wk_s6 hk) (by decide) ⟨by omega, by omega⟩ (fun h1 f2 e3 => ?_))
  have k4 := lk_q (frm_s f2) hk
  have k5 := lk_q (frm_s f2) hk1
  have H6 := isF_c f2 (fun a k q1 q2 => by omega) HF
  have H7 := mgT_c f2 (fun a k q => by omega) HT
  have FR8 := frm_t FR0 (frm_m (S' := (fun a k => a = y + 6)) f2 (fun a k q => by omega))
  refine z_iconst (5) dX9_sumAhead_8 rfl ?_
  refine e_istore_n (L' := [_, _, _]) dX9_sumAhead_9 (Nat.le_of_ble_eq_true rfl) rfl ?_
  have lp9 : ∀ (n9 : Nat) (c : Int) (h9 : mH), (c + 1).toNat = n9 → (wkk h9 y) → (fgk h9 f) → (isF h9 f g) → (mgT h9 y g) → (frm (fun a k => a = y + 6) h h9) → (-1 ≤ c ∧ c ≤ 5) → (ahI g (fun x => rI h9 (y + 6) x) c) → mEv TB0 ad M_X9_sumAhead (dd + 2) (0, 0) (mCal TB0 ad (dd + 1)) (fun v h' z => z.1 = 0 ∧ Q v h') 10 [some (.ref y), some (.ref f), some (.int (zI c))] [] h9 (0, 0) := by
    intro n9
    induction n9 using Nat.strongRecOn with
    | ind n9 ih9 =>
    intro c h9 hn9 k10 k11 H12 H13 FR14 I1 AH
    refine e_iload_n dX9_sumAhead_10 rfl ?_
    refine z_if_lt 61 dX9_sumAhead_11 rfl ⟨by omega, by omega⟩ (fun c15 => ?_) (fun c15 => ?_)
    · skip
      refine e_vret dX9_sumAhead_61 rfl ⟨rfl, ?_⟩
      exact kq _ FR14 (show ahI g (fun x => rI h9 (y + 6) x) (-1) by rw [show (-1 : Int) = c by omega]; exact AH)
    · skip
      have ub : 0 ≤ rI h9 (y + 6) (c + 1) ∧ rI h9 (y + 6) (c + 1) ≤ 20 * (6 - (c + 1)) := AH.2.2 (c + 1) (by omega) (by omega) (by omega)
      refine e_aload_n dX9_sumAhead_14 rfl ?_
      refine e_get (.ref (y + 6)) dX9_sumAhead_15 tf_9_32 (congrArg Prod.fst (wk_s0 k10)) (congrArg va_rf (wk_r0_6 k10)) ?_
      refine e_iload_n dX9_sumAhead_18 rfl ?_
      refine e_aload_n dX9_sumAhead_19 rfl ?_
      refine e_get (.ref (y + 6)) dX9_sumAhead_20 tf_9_32 (congrArg Prod.fst (wk_s0 k10)) (congrArg va_rf (wk_r0_6 k10)) ?_
      refine e_iload_n dX9_sumAhead_23 rfl ?_
      refine z_iconst (1) dX9_sumAhead_24 rfl ?_
      refine z_iadd dX9_sumAhead_25 ?_
      refine z_ild (rI h9 (y + 6) (c + 1)) dX9_sumAhead_26 (wk_s6 k10) (by decide) (by omega) (by omega) rfl ?_
      have y16 := rI_i h9 (y + 6) (c + 1)
      refine e_aload_n dX9_sumAhead_27 rfl ?_
      refine e_iload_n dX9_sumAhead_28 rfl ?_
      refine e_callV [.int _] dX9_sumAhead_29 tm_9_68 rfl (Nat.le_of_ble_eq_true rfl) (congrArg Prod.fst (fg_s0 k11)) (Nat.le_of_ble_eq_true rfl) (Nat.le_refl _) (Nat.le_refl _) rfl (zp_X2_hasCloth k11 H12 c ⟨by omega, by omega⟩ ?_)
      refine z_ifb_eq 52 dX9_sumAhead_32 rfl (fun c17 => ?_) (fun c17 => ?_)
      · skip
        refine z_iconst (0) dX9_sumAhead_52 rfl ?_
        refine z_iadd dX9_sumAhead_53 ?_
        refine z_ist dX9_sumAhead_54 (wk_s6 k10) (by decide) (by omega) (by omega) (fun h18 e19 => ?_)
        have f20 := frm_1 e19
        have k21 := lk_q (frm_s f20) k10
        have k22 := lk_q (frm_s f20) k11
        have H23 := isF_c f20 (fun a k q1 q2 => by omega) H12
        have H24 := mgT_c f20 (fun a k q => by omega) H13
        have FR25 := frm_t FR14 (frm_m (S' := (fun a k => a = y + 6)) f20 (fun a k q => by omega))
        refine z_iinc (L' := [_, _, _]) dX9_sumAhead_55 rfl rfl ?_
        refine e_goto 10 dX9_sumAhead_58 rfl ?_
        exact ih9 _ (by omega) (c + (-1)) h18 rfl k21 k22 H23 H24 FR25 (by omega) (ahI_s (U' := fun x => rI h18 (y + 6) x) W.2.2 (by omega) (by omega) AH (fun x a b => (frm_r f20 (by omega))) (by first | exact Or.inl ⟨(rI_eq e19 ⟨by omega, by omega⟩), by omega⟩ | exact Or.inr ⟨(rI_eq e19 ⟨by omega, by omega⟩), by first | omega | (intro z; rcases an with q | q; exact absurd q.1 (by omega); exact q.2 z.2)⟩))
      · skip
        refine e_aload_n dX9_sumAhead_35 rfl ?_
        refine e_iload_n dX9_sumAhead_36 rfl ?_
        refine e_callV [.int _] dX9_sumAhead_37 tm_9_72 rfl (Nat.le_of_ble_eq_true rfl) (congrArg Prod.fst (wk_s0 k10)) (Nat.le_of_ble_eq_true rfl) (Nat.le_refl _) (Nat.le_refl _) rfl (zp_X9_anybodyCuts k10 H13 c ⟨by omega, by omega⟩ (by omega) (fun v26 p27 => ?_))
        have an : (v26 = 1 ∧ anP g c) ∨ (v26 = 0 ∧ ¬ anP g c) := by assumption
        have anb : v26 = 0 ∨ v26 = 1 := by rcases an with q | q; exact Or.inr q.1; exact Or.inl q.1
        refine z_if_eq 52 dX9_sumAhead_40 rfl ⟨by omega, by omega⟩ (fun c28 => ?_) (fun c28 => ?_)
        · skip
          refine z_iconst (0) dX9_sumAhead_52 rfl ?_
          refine z_iadd dX9_sumAhead_53 ?_
          refine z_ist dX9_sumAhead_54 (wk_s6 k10) (by decide) (by omega) (by omega) (fun h29 e30 => ?_)
          have f31 := frm_1 e30
          have k32 := lk_q (frm_s f31) k10
          have k33 := lk_q (frm_s f31) k11
          have H34 := isF_c f31 (fun a k q1 q2 => by omega) H12
          have H35 := mgT_c f31 (fun a k q => by omega) H13
          have FR36 := frm_t FR14 (frm_m (S' := (fun a k => a = y + 6)) f31 (fun a k q => by omega))
          refine z_iinc (L' := [_, _, _]) dX9_sumAhead_55 rfl rfl ?_
          refine e_goto 10 dX9_sumAhead_58 rfl ?_
          exact ih9 _ (by omega) (c + (-1)) h29 rfl k32 k33 H34 H35 FR36 (by omega) (ahI_s (U' := fun x => rI h29 (y + 6) x) W.2.2 (by omega) (by omega) AH (fun x a b => (frm_r f31 (by omega))) (by first | exact Or.inl ⟨(rI_eq e30 ⟨by omega, by omega⟩), by omega⟩ | exact Or.inr ⟨(rI_eq e30 ⟨by omega, by omega⟩), by first | omega | (intro z; rcases an with q | q; exact absurd q.1 (by omega); exact q.2 z.2)⟩))
        · skip
          refine e_aload_n dX9_sumAhead_43 rfl ?_
          refine e_get (.ref (f + 14)) dX9_sumAhead_44 tf_9_75 (congrArg Prod.fst (fg_s0 k11)) (congrArg va_rf (fg_r0_3 k11)) ?_
          refine e_iload_n dX9_sumAhead_47 rfl ?_
          refine z_ild (pr g c) dX9_sumAhead_48 (fg_s14 k11) (by decide) (by omega) (by omega) (isF_pr H12 (by omega) (by omega)) ?_
          have y37 := wC_c (isF_w H12).2.2 (show 0 ≤ c by omega) (by omega)
          refine e_goto 53 dX9_sumAhead_49 rfl ?_
          refine z_iadd dX9_sumAhead_53 ?_
          refine z_ist dX9_sumAhead_54 (wk_s6 k10) (by decide) (by omega) (by omega) (fun h38 e39 => ?_)
          have f40 := frm_1 e39
          have k41 := lk_q (frm_s f40) k10
          have k42 := lk_q (frm_s f40) k11
          have H43 := isF_c f40 (fun a k q1 q2 => by omega) H12
          have H44 := mgT_c f40 (fun a k q => by omega) H13
          have FR45 := frm_t FR14 (frm_m (S' := (fun a k => a = y + 6)) f40 (fun a k q => by omega))
          refine z_iinc (L' := [_, _, _]) dX9_sumAhead_55 rfl rfl ?_
          refine e_goto 10 dX9_sumAhead_58 rfl ?_
          exact ih9 _ (by omega) (c + (-1)) h38 rfl k41 k42 H43 H44 FR45 (by omega) (ahI_s (U' := fun x => rI h38 (y + 6) x) W.2.2 (by omega) (by omega) AH (fun x a b => (frm_r f40 (by omega))) (by first | exact Or.inl ⟨(rI_eq e39 ⟨by omega, by omega⟩), by omega⟩ | exact Or.inr ⟨(rI_eq e39 ⟨by omega, by omega⟩), by first | omega | (intro z; rcases an with q | q; exact absurd q.1 (by omega); exact q.2 z.2)⟩))
  exact lp9 _ 5 h1 rfl k4 k5 H6 H7 FR8 (by omega) (⟨e3 6 (by omega) (by omega), fun x a b d => by omega, fun x a b d => by have e : rI h1 (y + 6) x = 0 := e3 x b (by omega); show 0 ≤ rI h1 (y + 6) x ∧ rI h1 (y + 6) x ≤ _; omega⟩ : ahI g (fun x => rI h1 (y + 6) x) 5)
