/-! calls -/
def mWs (N : mM) : List Cond := Cond.code (mMn N) (mMc N) (mMl N) (mMr N) :: mTB
def mRm (d mc ms : Nat) : Room := { frames := d, cells := mc, slots := ms, locals := 100 * d }
/-- what is shown of every call, d deep -/
def mMt (T : mTb) (ad : mA) (D : va_G) (cA : Nat → ClassId) (B : Nat) (l : Launch) (d : Nat) : Prop :=
  ∀ (N : mM) (A : List Value) (h : mH) (mc ms : Nat) (Q : mQ), mGM N → mCal T ad d N A h mc ms Q → Met l (mMn N) (mWs N) (mRm d mc ms) (mPc D cA ad B A h) (mQc D cA B mc Q) mc ms (fun q => B ≤ q)
theorem mTB_good {w : Cond} (h : w ∈ mTB) : (w.onTables && w.keeps) = true ∨ ∃ ty, w = .arrayClass ty := good_of_word (List.mem_filter.mp h).2
theorem mWs_in {N : mM} (hN : mGM N) : GoodIn mTB (mWs N) := fun w hw => by
  rcases List.mem_cons.mp hw with rfl | hw
  · exact ⟨hN.2.2.1, mTB_good hN.2.2.1⟩
  · exact ⟨hw, mTB_good hw⟩
section Cal
variable {T : mTb} {ad : mA} {D : va_G} {cA : Nat → ClassId} {B : Nat} {M : mM} {lim : Nat × Nat} {p : Program} {l : Launch} {e : Env} {R : Room} {s : State} {m : MethodId} {args : Array Value} {below : List Frame} {meth : Method} {c : Code} {pc : Nat} {ls : Array Slot} {r st0 : List Value} {h : mH} {H : Heap} {locs : List Loc} {z1 z2 mc ms : Nat} {Qw : State → Prop} {Q : mQ} {a0 : Array Value}
/-- behind a call -/
theorem s_back (hR : mRel D cA ad B h s H locs) (hE : mE h = s.heap.size + z1) (hz : H.size = mE h) (hr : va_Run p l e R s m args below meth c H locs z1 z2 mc ms (F0 m pc ls st0) r (mQc D cA B mc Q a0) (fun q => B ≤ q))
    (kk : ∀ v h' H1 locs1, Q v h' → mRel D cA ad B h' s H1 locs1 → mE h' = s.heap.size + (z1 + mc) → W p l e R s m args below meth c H1 locs1 (z1 + mc) (z2 + ms) Qw (F0 m (pc + 3) ls (v.toList ++ r))) : W p l e R s m args below meth c H locs z1 z2 Qw (F0 m pc ls st0) := by
  intro T hT X
  obtain ⟨v, st₀, t, T', L, h0, X', hL, e1, e2, ⟨⟨v', h', hv, hq, hP', hz', hG', hex⟩, hF⟩, st⟩ := hr T hT X
  cases hv
  obtain ⟨hK, hP, hG, hS, hB, h2⟩ := hR
  obtain ⟨f1, f2⟩ := hF
  rw [h0] at f1 f2 hex
  have hrel : mRel D cA ad B h' s T'.heap (locs ++ L) := by
    refine ⟨hK, by rw [e1]; exact hP', hG', ⟨by rw [e1]; exact Nat.le_trans hS.1 f1, fun q g1 g2 => ?_, fun q hq => ?_⟩, hB, h2⟩
    · rw [e1, f2 q (Nat.lt_of_lt_of_le g1 hS.1) g2]
      exact hS.2.1 q g1 g2
    · rcases List.mem_append.mp hq with h | h
      · exact hS.2.2 q h
      · exact hL q h
  obtain ⟨t2, a1, b1⟩ := kk v h' T'.heap (locs ++ L) hq hrel (by omega) T' rfl X'
  exact ⟨t2, st t2 a1, b1⟩
theorem s_callV {d : Nat} (C : mCx M (d + 1) lim p R s m args meth c) (hT : mGT T) (hM : mMt T ad D cA B l d) {N : mM} {i a : Nat} {A : List Value} (hls : ls.size = mMl M) (hR : mRel D cA ad B h s H locs) (hE : mE h = s.heap.size + z1) (hd : decode (mMc M) pc = .ok (.invokevirtual i, 3)) (ht : tMet T (mMo M) i = some (0, N)) (hA : A.length = mMp N) (hr8 : (r.map fun v => v.category).sum ≤ 8) (hk : (mS h a).1 = mMo N) (hk2 : mMo N < 13) (hc1 : z1 + mc ≤ lim.1) (hc2 : z2 + ms ≤ lim.2) (hq : mCal T ad d N (.ref a :: A) h mc ms Q)
    (kk : ∀ v h' H1 locs1, Q v h' → mRel D cA ad B h' s H1 locs1 → mE h' = s.heap.size + (z1 + mc) → W p l e R s m args below meth c H1 locs1 (z1 + mc) (z2 + ms) Qw (F0 m (pc + 3) ls (v.toList ++ r))) : W p l e R s m args below meth c H locs z1 z2 Qw (F0 m pc ls (A.reverse ++ .ref a :: r)) := by
  refine mSz hR hE (fun hz => ?_)
  obtain ⟨hx, hb, hr, hml, hown, hts, hlk, hnm, q1, q2, q3, q4, q5⟩ := C
  obtain ⟨hN, g2, g3, g4⟩ := hT.2.2.2.2.2.2.2.1 _ _ _ ht
  obtain ⟨hK, hP, hG, hS, hB, h2⟩ := id hR
  obtain ⟨b1, b2⟩ := hG.2 a (by omega)
  have hgood : GoodIn mTB (wsV (mCn (mMo M)) i (mCn (mMo N)) (mMn N) (mWs N)) := by
    intro w hw
    rcases List.mem_append.mp hw with hw | hw
    · simp only [List.mem_cons, List.not_mem_nil, or_false] at hw
      rcases hw with rfl | rfl | rfl | rfl
      · exact ⟨g2, mTB_good g2⟩
      · exact ⟨g3, mTB_good g3⟩
      · exact ⟨g4, mTB_good g4⟩
      · exact ⟨hN.2.2.2.1, mTB_good hN.2.2.2.1⟩
    · exact mWs_in hN w hw
  refine s_back hR hE hz (va_runV (As := A) ⟨hx, hb, hml, hown, hts⟩ (hM N _ h mc ms Q hN hq) (cwV (mMp N) hts hgood rfl rfl rfl ⟨hN.1, hN.2.2.2.2.1.1, hN.2.2.2.2.1.2, hN.2.2.2.2.2.1⟩ ⟨q3, ?_⟩) ⟨mPc_blind D cA ad B _ h, ?_, mPc_of hR hz _⟩ rfl hA hls rfl (lv_room hr8) hd ⟨by rw [q1]; exact hc1, by rw [q2]; exact hc2⟩) kk
  · have := hN.2.2.2.2.2.2
    show 8 + (mMl N + 11) + 100 * d ≤ R.locals
    omega
  · exact va_recv hK hP (classes_get hk2) (ci := mMo N) (q0 := a - B) (by rw [mwl_get b1 b2, mce_obj hk hk2])
theorem s_callS {d : Nat} (C : mCx M (d + 1) lim p R s m args meth c) (hT : mGT T) (hM : mMt T ad D cA B l d) {N : mM} {i : Nat} {A : List Value} (hls : ls.size = mMl M) (hR : mRel D cA ad B h s H locs) (hE : mE h = s.heap.size + z1) (hd : decode (mMc M) pc = .ok (.invokestatic i, 3)) (ht : tMet T (mMo M) i = some (1, N)) (hA : A.length = mMp N) (hr8 : (r.map fun v => v.category).sum ≤ 8) (hc1 : z1 + mc ≤ lim.1) (hc2 : z2 + ms ≤ lim.2) (hq : mCal T ad d N A h mc ms Q)
    (kk : ∀ v h' H1 locs1, Q v h' → mRel D cA ad B h' s H1 locs1 → mE h' = s.heap.size + (z1 + mc) → W p l e R s m args below meth c H1 locs1 (z1 + mc) (z2 + ms) Qw (F0 m (pc + 3) ls (v.toList ++ r))) : W p l e R s m args below meth c H locs z1 z2 Qw (F0 m pc ls (A.reverse ++ r)) := by
  refine mSz hR hE (fun hz => ?_)
  obtain ⟨hx, hb, hr, hml, hown, hts, hlk, hnm, q1, q2, q3, q4, q5⟩ := C
  obtain ⟨hN, g2, g3⟩ := hT.2.2.2.2.2.2.2.2.1 _ _ _ ht
  refine s_back hR hE hz (va_runS (As := A) ⟨hx, hb, hml, hown, hts⟩ (hM N _ h mc ms Q hN hq) ⟨callB_of (mMp N) hts (mWs_in hN) rfl rfl rfl (hts _ (by rw [hN.1]; exact hN.2.2.2.1)) (hts _ g2) ⟨hN.2.2.2.2.1.1, hN.2.2.2.2.1.2, hN.2.2.2.2.2.1⟩ ⟨q3, ?_⟩, hts _ g3⟩ ⟨mPc_blind D cA ad B _ h, mPc_of hR hz _⟩ rfl hA hls rfl (lv_room hr8) hd ⟨by rw [q1]; exact hc1, by rw [q2]; exact hc2⟩) kk
  have := hN.2.2.2.2.2.2
  show 8 + (mMl N + 11) + 100 * d ≤ R.locals
  omega
theorem s_callI {d : Nat} (C : mCx M (d + 1) lim p R s m args meth c) (hT : mGT T) (hM : mMt T ad D cA B l d) {N : mM} {i a : Nat} {A : List Value} (hls : ls.size = mMl M) (hR : mRel D cA ad B h s H locs) (hE : mE h = s.heap.size + z1) (hd : decode (mMc M) pc = .ok (.invokespecial i, 3)) (ht : tMet T (mMo M) i = some (2, N) ∨ tMet T (mMo M) i = some (3, N)) (hA : A.length = mMp N) (hr8 : (r.map fun v => v.category).sum ≤ 8) (hc1 : z1 + mc ≤ lim.1) (hc2 : z2 + ms ≤ lim.2) (hq : mCal T ad d N (.ref a :: A) h mc ms Q)
    (kk : ∀ v h' H1 locs1, Q v h' → mRel D cA ad B h' s H1 locs1 → mE h' = s.heap.size + (z1 + mc) → W p l e R s m args below meth c H1 locs1 (z1 + mc) (z2 + ms) Qw (F0 m (pc + 3) ls (v.toList ++ r))) : W p l e R s m args below meth c H locs z1 z2 Qw (F0 m pc ls (A.reverse ++ .ref a :: r)) := by
  refine mSz hR hE (fun hz => ?_)
  obtain ⟨hx, hb, hr, hml, hown, hts, hlk, hnm, q1, q2, q3, q4, q5⟩ := C
  rcases ht with ht | ht
  · obtain ⟨hN, w1, w2, g2, g3⟩ := hT.2.2.2.2.2.2.2.2.2.1 _ _ _ ht
    have hw : mWs N = Cond.code (mMn N) (mMc N) (mMl N) none :: mTB := by unfold mWs; rw [w1]
    refine s_back hR hE hz (va_runI (As := A) ⟨hx, hb, hml, hown, hts⟩ (hM N _ h mc ms Q hN hq) (cwI (mMp N) hts (mWs_in hN) hw rfl rfl (hts _ (by rw [hN.1]; exact hN.2.2.2.1)) (hts _ g2) (hts _ g3) w2 ⟨hN.2.2.2.2.1.1, hN.2.2.2.2.1.2, hN.2.2.2.2.2.1⟩ ⟨q3, ?_⟩) ⟨mPc_blind D cA ad B _ h, mPc_of hR hz _⟩ rfl hA hls rfl (lv_room hr8) hd ⟨by rw [q1]; exact hc1, by rw [q2]; exact hc2⟩) kk
    have := hN.2.2.2.2.2.2
    show 8 + (mMl N + 11) + 100 * d ≤ R.locals
    omega
  · obtain ⟨hN, w1, w2, g2, g3⟩ := hT.2.2.2.2.2.2.2.2.2.2.1 _ _ _ ht
    have hw : mWs N = Cond.code (mMn N) (mMc N) (mMl N) none :: mTB := by unfold mWs; rw [w1]
    obtain ⟨-, -, -, -, -, h2⟩ := id hR
    refine s_back hR hE hz (va_runIN (As := A) ⟨hx, hb, hml, hown, hts⟩ (hM N _ h mc ms Q hN hq) ⟨va_cnB (mMp N) hts (mWs_in hN) hw rfl rfl (h2.2.2.1 _ g2) (hts _ (by rw [hN.1]; exact hN.2.2.2.1)) ⟨hN.2.2.2.2.1.1, hN.2.2.2.2.1.2, hN.2.2.2.2.2.1⟩ ⟨q3, ?_⟩, w2, hts _ g3⟩ ⟨mPc_blind D cA ad B _ h, mPc_of hR hz _⟩ rfl hA hls rfl (lv_room hr8) hd ⟨by rw [q1]; exact hc1, by rw [q2]; exact hc2⟩) kk
    have := hN.2.2.2.2.2.2
    show 8 + (mMl N + 11) + 100 * d ≤ R.locals
    omega
end Cal
