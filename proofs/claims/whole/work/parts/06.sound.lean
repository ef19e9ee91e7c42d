/-! SOUND: what the abstract machine does to its heap, the machine does to its own -/
section Snd
variable {T : mTb} {ad : mA} {D : va_G} {cA : Nat → ClassId} {B : Nat} {M : mM} {dp : Nat} {lim : Nat × Nat} {p : Program} {l : Launch} {e : Env} {R : Room} {s : State} {m : MethodId} {args : Array Value} {below : List Frame} {meth : Method} {c : Code} {pc : Nat} {ls : Array Slot} {r : List Value} {h : mH} {H : Heap} {locs : List Loc} {z1 z2 : Nat} {Qw : State → Prop}
theorem s_get (C : mCx M dp lim p R s m args meth c) (hT : mGT T) (hW : mGW) {a i cc k : Nat} (hR : mRel D cA ad B h s H locs) (hd : decode (mMc M) pc = .ok (.getfield i, 3)) (ht : tFld T (mMo M) i = some (cc, k)) (hs : (mS h a).1 = cc)
    (kk : W p l e R s m args below meth c H locs z1 z2 Qw (F0 m (pc + 3) ls (mfv h a cc k :: r))) : W p l e R s m args below meth c H locs z1 z2 Qw (F0 m pc ls (.ref a :: r)) := by
  obtain ⟨hK, hP, hG, hS, hB, h2⟩ := hR
  obtain ⟨hx, hb, hr, hml, hown, hts, hlk, hnm, q1, q2, q3, q4, q5⟩ := C
  obtain ⟨g1, g2, g3⟩ := hT.1 _ _ _ _ ht
  obtain ⟨b1, b2⟩ := hG.2 a (by omega)
  exact va_get (D := D) (ci := cc) (v := mfv h a cc k) (C := mCn cc) (T := mTT cc) (N := mnf cc) hx hb hts (hW.1 cc g1) hown hK hP (a - B) (by rw [mwl_get b1 b2, mce_obj hs g1]) (classes_get g1) k g2 (hts _ g3) (fun _ h9 => h9) (by simp [g2]) hd kk
theorem s_put (C : mCx M dp lim p R s m args meth c) (hT : mGT T) (hW : mGW) {a i cc k : Nat} {v : Value} (hR : mRel D cA ad B h s H locs) (hd : decode (mMc M) pc = .ok (.putfield i, 3)) (ht : tFld T (mMo M) i = some (cc, k)) (hs : (mS h a).1 = cc) (hn : narrow (mty cc k) v = v) (hf : fits (mty cc k) v = true) (hv : mfv (mPut h a k v) a cc k = v) (hfin : (mTT cc k).2.2.2 = false ∨ ((mMn M).name = "<init>" ∧ cc = mMo M))
    (kk : ∀ H1 locs1, mRel D cA ad B (mPut h a k v) s H1 locs1 → W p l e R s m args below meth c H1 locs1 z1 z2 Qw (F0 m (pc + 3) ls r)) : W p l e R s m args below meth c H locs z1 z2 Qw (F0 m pc ls (v :: .ref a :: r)) := by
  obtain ⟨hK, hP, hG, hS, hB, h2⟩ := id hR
  obtain ⟨hx, hb, hr, hml, hown, hts, hlk, hnm, q1, q2, q3, q4, q5⟩ := C
  obtain ⟨g1, g2, g3⟩ := hT.1 _ _ _ _ ht
  have ha : (mS h a).1 < 21 := by omega
  obtain ⟨b1, b2⟩ := hG.2 a ha
  have he : (mwl cA B h)[a - B]? = some (a, .inr (cc, (List.range (mnf cc)).map (mfv h a cc))) := by rw [mwl_get b1 b2, mce_obj hs g1]
  have hl : k < ((List.range (mnf cc)).map (mfv h a cc)).length := by simpa using g2
  have hc2 : mce cA (mPut h a k v) a = .inr (cc, ((List.range (mnf cc)).map (mfv h a cc)).set k v) := by
    rw [mfs_set g2 hv]
    exact mce_obj (by rw [(mOne_put h a k v).2.1 a]; exact hs) g1
  by_cases hfn : (mTT cc k).2.2.2 = false
  · exact va_put (D := D) (ci := cc) (v := v) (ty := mty cc k) (C := mCn cc) (T := mTT cc) (N := mnf cc) hx hb hts (hW.1 cc g1) (mty cc) (mty_ok cc g1) (mnm_ok cc g1) hown hK hP (mwl_D cA B h) hS (a - B) he (classes_get g1) k g2 (hts _ g3) (fun _ h9 => h9) hfn (mty_ok cc g1 k g2) hn hf hl hd (fun H1 locs1 hP1 _ hS1 => kk H1 locs1 (hR.one ha (mOne_put h a k v) hc2 hP1 hS1))
  · rcases hfin with q | ⟨w1, w2⟩
    · exact absurd q hfn
    · exact va_putF (D := D) (ci := cc) (v := v) (ty := mty cc k) (C := mCn cc) (T := mTT cc) (N := mnf cc) hx hb hts (hW.1 cc g1) (mty cc) (mty_ok cc g1) (mnm_ok cc g1) hown hK hP (mwl_D cA B h) hS (a - B) he (classes_get g1) k g2 (hts _ g3) (fun _ h9 => h9) (by simpa using hfn) (hnm w1) (by rw [mTT_cls cc g1 k g2, w2]) (mty_ok cc g1 k g2) hn hf hl hd (fun H1 locs1 hP1 _ hS1 => kk H1 locs1 (hR.one ha (mOne_put h a k v) hc2 hP1 hS1))
theorem s_ild (C : mCx M dp lim p R s m args meth c) {a k : Nat} {i : Int32} (hR : mRel D cA ad B h s H locs) (hd : (k = 14 ∧ decode (mMc M) pc = .ok (.iaload, 1)) ∨ ((k = 13 ∨ k = 16) ∧ decode (mMc M) pc = .ok (.baload, 1))) (hs : (mS h a).1 = k) (hi : vp_in i (mS h a).2)
    (kk : W p l e R s m args below meth c H locs z1 z2 Qw (F0 m (pc + 1) ls (.int (mI h a i.toNatClampNeg) :: r))) : W p l e R s m args below meth c H locs z1 z2 Qw (F0 m pc ls (.int i :: .ref a :: r)) := by
  obtain ⟨hK, hP, hG, hS, hB, h2⟩ := hR
  obtain ⟨hx, hb, hr, hml, hown, hts, hlk, hnm, q1, q2, q3, q4, q5⟩ := C
  have hk : k = 13 ∨ k = 14 ∨ k = 16 := by omega
  obtain ⟨b1, b2⟩ := hG.2 a (by omega)
  have he : (mwl cA B h)[a - B]? = some (a, .inl (cA k, (mS h a).2, .inl (mI h a))) := by rw [mwl_get b1 b2, mce_int hs hk]
  rcases hd with ⟨rfl, hd⟩ | ⟨rfl | rfl, hd⟩
  · exact va_iald hx hb hK hP (a - B) 1 he (mtys_get cA (k := 14) (by omega) (by omega)) hi hd kk
  · exact va_bald hx hb hK hP (a - B) 0 he (mtys_get cA (k := 13) (by omega) (by omega)) hi hd kk
  · exact va_zald hx hb hK hP (a - B) 3 he (mtys_get cA (k := 16) (by omega) (by omega)) hi hd kk
theorem s_ildO (C : mCx M dp lim p R s m args meth c) {j : Nat} {i : Int32} (hR : mRel D cA ad B h s H locs) (hd : decode (mMc M) pc = .ok (.iaload, 1)) (hs : mOj j) (hi : vp_in i (ad.2.1 j))
    (kk : W p l e R s m args below meth c H locs z1 z2 Qw (F0 m (pc + 1) ls (.int (ad.2.2 j i.toNatClampNeg) :: r))) : W p l e R s m args below meth c H locs z1 z2 Qw (F0 m pc ls (.int i :: .ref (ad.1 j) :: r)) := by
  obtain ⟨hK, hP, hG, hS, hB, h2⟩ := hR
  obtain ⟨hx, hb, hr, hml, hown, hts, hlk, hnm, q1, q2, q3, q4, q5⟩ := C
  exact va_ti hx hb (h2.2.2.2.2.2.1 j hs) hS hi rfl hd kk
theorem s_lld (C : mCx M dp lim p R s m args meth c) {a : Nat} {i : Int32} (hR : mRel D cA ad B h s H locs) (hd : decode (mMc M) pc = .ok (.laload, 1)) (hs : (mS h a).1 = 15) (hi : vp_in i (mS h a).2)
    (kk : W p l e R s m args below meth c H locs z1 z2 Qw (F0 m (pc + 1) ls (.long (mJ h a i.toNatClampNeg) :: r))) : W p l e R s m args below meth c H locs z1 z2 Qw (F0 m pc ls (.int i :: .ref a :: r)) := by
  obtain ⟨hK, hP, hG, hS, hB, h2⟩ := hR
  obtain ⟨hx, hb, hr, hml, hown, hts, hlk, hnm, q1, q2, q3, q4, q5⟩ := C
  obtain ⟨b1, b2⟩ := hG.2 a (by omega)
  exact va_lald hx hb hK hP (a - B) 2 (by rw [mwl_get b1 b2, mce_long hs]) (mtys_get cA (k := 15) (by omega) (by omega)) hi hd kk
theorem s_ald (C : mCx M dp lim p R s m args meth c) {a : Nat} {i : Int32} (hR : mRel D cA ad B h s H locs) (hd : decode (mMc M) pc = .ok (.aaload, 1)) (hs : 17 ≤ (mS h a).1) (hs2 : (mS h a).1 < 21) (hi : vp_in i (mS h a).2)
    (kk : W p l e R s m args below meth c H locs z1 z2 Qw (F0 m (pc + 1) ls (va_rf (mR h a i.toNatClampNeg) :: r))) : W p l e R s m args below meth c H locs z1 z2 Qw (F0 m pc ls (.int i :: .ref a :: r)) := by
  obtain ⟨hK, hP, hG, hS, hB, h2⟩ := hR
  obtain ⟨hx, hb, hr, hml, hown, hts, hlk, hnm, q1, q2, q3, q4, q5⟩ := C
  obtain ⟨b1, b2⟩ := hG.2 a (by omega)
  obtain ⟨C', e, -⟩ := h2.2.2.2.1 _ hs hs2
  have hm := mtys_get cA (show 13 ≤ (mS h a).1 by omega) hs2
  rw [e] at hm
  exact va_aldq hx hb hK hP (a - B) ((mS h a).1 - 13) (by rw [mwl_get b1 b2, mce_ref rfl hs]) hm hi hd kk
theorem s_len (C : mCx M dp lim p R s m args meth c) {a : Nat} (hR : mRel D cA ad B h s H locs) (hd : decode (mMc M) pc = .ok (.arraylength, 1)) (hs : 13 ≤ (mS h a).1 ∧ (mS h a).1 < 21)
    (kk : W p l e R s m args below meth c H locs z1 z2 Qw (F0 m (pc + 1) ls (.int (Int32.ofNat (mS h a).2) :: r))) : W p l e R s m args below meth c H locs z1 z2 Qw (F0 m pc ls (.ref a :: r)) := by
  obtain ⟨hK, hP, hG, hS, hB, h2⟩ := hR
  obtain ⟨hx, hb, hr, hml, hown, hts, hlk, hnm, q1, q2, q3, q4, q5⟩ := C
  obtain ⟨k1, k2⟩ := hs
  · obtain ⟨b1, b2⟩ := hG.2 a (by omega)
    have hm := mtys_get cA k1 k2
    have hx3 : ∃ x : vp_A, mce cA h a = .inl (cA (mS h a).1, x) ∧ x.1 = (mS h a).2 := by
      unfold mce
      rw [if_neg (by omega)]
      split
      · next q => exact ⟨_, by rw [q], rfl⟩
      · split
        · exact ⟨_, rfl, rfl⟩
        · exact ⟨_, rfl, rfl⟩
    obtain ⟨x, e1, e2⟩ := hx3
    exact va_alen hx hb hK hP (a - B) ((mS h a).1 - 13) (by rw [mwl_get b1 b2, e1]) hm (by rw [e2]) hd kk
theorem s_lenO (C : mCx M dp lim p R s m args meth c) {j : Nat} (hR : mRel D cA ad B h s H locs) (hd : decode (mMc M) pc = .ok (.arraylength, 1)) (hs : mOj j)
    (kk : W p l e R s m args below meth c H locs z1 z2 Qw (F0 m (pc + 1) ls (.int (Int32.ofNat (ad.2.1 j)) :: r))) : W p l e R s m args below meth c H locs z1 z2 Qw (F0 m pc ls (.ref (ad.1 j) :: r)) := by
  obtain ⟨hK, hP, hG, hS, hB, h2⟩ := hR
  obtain ⟨hx, hb, hr, hml, hown, hts, hlk, hnm, q1, q2, q3, q4, q5⟩ := C
  exact va_tlen hx hb (h2.2.2.2.2.2.1 j hs) hS rfl hd kk
theorem s_ist (C : mCx M dp lim p R s m args meth c) {a k : Nat} {i x y : Int32} (hR : mRel D cA ad B h s H locs) (hd : (k = 14 ∧ y = x ∧ decode (mMc M) pc = .ok (.iastore, 1)) ∨ ((k = 13 ∨ k = 16) ∧ y = vp_nar (mat k) x ∧ decode (mMc M) pc = .ok (.bastore, 1))) (hs : (mS h a).1 = k) (hi : vp_in i (mS h a).2)
    (kk : ∀ H1 locs1, mRel D cA ad B (wI h a i.toNatClampNeg y) s H1 locs1 → W p l e R s m args below meth c H1 locs1 z1 z2 Qw (F0 m (pc + 1) ls r)) : W p l e R s m args below meth c H locs z1 z2 Qw (F0 m pc ls (.int x :: .int i :: .ref a :: r)) := by
  obtain ⟨hK, hP, hG, hS, hB, h2⟩ := id hR
  obtain ⟨hx, hb, hr, hml, hown, hts, hlk, hnm, q1, q2, q3, q4, q5⟩ := C
  have hk : k = 13 ∨ k = 14 ∨ k = 16 := by omega
  have ha : (mS h a).1 < 21 := by omega
  obtain ⟨b1, b2⟩ := hG.2 a ha
  have he : (mwl cA B h)[a - B]? = some (a, .inl (cA k, (mS h a).2, .inl (mI h a))) := by rw [mwl_get b1 b2, mce_int hs hk]
  have hc2 : mce cA (wI h a i.toNatClampNeg y) a = .inl (cA k, (mS h a).2, .inl (upd (mI h a) i.toNatClampNeg y)) := by
    rw [mce_int (h := wI h a i.toNatClampNeg y) (k := k) hs hk, mI_wI_self]
    rfl
  rcases hd with ⟨rfl, rfl, hd⟩ | ⟨rfl | rfl, rfl, hd⟩
  · exact va_iast hx hb hK hP (mwl_D cA B h) hS (a - B) 1 he (mtys_get cA (k := 14) (by omega) (by omega)) hi hd (fun H1 locs1 hP1 _ hS1 => kk H1 locs1 (hR.one ha (mOne_wI _ _ _ _) hc2 hP1 hS1))
  · exact va_bast hx hb hK hP (mwl_D cA B h) hS (a - B) 0 he (mtys_get cA (k := 13) (by omega) (by omega)) hi hd (fun H1 locs1 hP1 _ hS1 => kk H1 locs1 (hR.one ha (mOne_wI _ _ _ _) hc2 hP1 hS1))
  · exact va_zast hx hb hK hP (mwl_D cA B h) hS (a - B) 3 he (mtys_get cA (k := 16) (by omega) (by omega)) hi hd (fun H1 locs1 hP1 _ hS1 => kk H1 locs1 (hR.one ha (mOne_wI _ _ _ _) hc2 hP1 hS1))
theorem s_lst (C : mCx M dp lim p R s m args meth c) {a : Nat} {i : Int32} {x : Int64} (hR : mRel D cA ad B h s H locs) (hd : decode (mMc M) pc = .ok (.lastore, 1)) (hs : (mS h a).1 = 15) (hi : vp_in i (mS h a).2)
    (kk : ∀ H1 locs1, mRel D cA ad B (wJ h a i.toNatClampNeg x) s H1 locs1 → W p l e R s m args below meth c H1 locs1 z1 z2 Qw (F0 m (pc + 1) ls r)) : W p l e R s m args below meth c H locs z1 z2 Qw (F0 m pc ls (.long x :: .int i :: .ref a :: r)) := by
  obtain ⟨hK, hP, hG, hS, hB, h2⟩ := id hR
  obtain ⟨hx, hb, hr, hml, hown, hts, hlk, hnm, q1, q2, q3, q4, q5⟩ := C
  have ha : (mS h a).1 < 21 := by omega
  obtain ⟨b1, b2⟩ := hG.2 a ha
  have he : (mwl cA B h)[a - B]? = some (a, .inl (cA 15, (mS h a).2, .inr (.inl (mJ h a)))) := by rw [mwl_get b1 b2, mce_long hs]
  have hc2 : mce cA (wJ h a i.toNatClampNeg x) a = .inl (cA 15, (mS h a).2, .inr (.inl (vp_updL (mJ h a) i.toNatClampNeg x))) := by
    rw [mce_long (h := wJ h a i.toNatClampNeg x) hs, mJ_wJ_self]
    rfl
  exact va_last hx hb hK hP (mwl_D cA B h) hS (a - B) 2 he (mtys_get cA (k := 15) (by omega) (by omega)) hi hd (fun H1 locs1 hP1 _ hS1 => kk H1 locs1 (hR.one ha (mOne_wJ _ _ _ _) hc2 hP1 hS1))
theorem s_ast (C : mCx M dp lim p R s m args meth c) {a v : Nat} {i : Int32} (hR : mRel D cA ad B h s H locs) (hd : decode (mMc M) pc = .ok (.aastore, 1)) (hs : 17 ≤ (mS h a).1) (hs2 : (mS h a).1 < 21) (hv : (mS h v).1 < 13) (ht : mat (mS h a).1 = .object (mCn (mS h v).1)) (hi : vp_in i (mS h a).2)
    (kk : ∀ H1 locs1, mRel D cA ad B (wR h a i.toNatClampNeg (some v)) s H1 locs1 → W p l e R s m args below meth c H1 locs1 z1 z2 Qw (F0 m (pc + 1) ls r)) : W p l e R s m args below meth c H locs z1 z2 Qw (F0 m pc ls (.ref v :: .int i :: .ref a :: r)) := by
  obtain ⟨hK, hP, hG, hS, hB, h2⟩ := id hR
  obtain ⟨hx, hb, hr, hml, hown, hts, hlk, hnm, q1, q2, q3, q4, q5⟩ := C
  obtain ⟨b1, b2⟩ := hG.2 a hs2
  obtain ⟨v1, v2⟩ := hG.2 v (by omega)
  have he : (mwl cA B h)[a - B]? = some (a, .inl (cA (mS h a).1, (mS h a).2, .inr (.inr (.inr (.inr (mR h a)))))) := by rw [mwl_get b1 b2, mce_ref rfl hs]
  have hc2 : mce cA (wR h a i.toNatClampNeg (some v)) a = .inl (cA (mS h a).1, (mS h a).2, .inr (.inr (.inr (.inr (va_up (mR h a) i.toNatClampNeg (some v)))))) := by
    rw [mce_ref (h := wR h a i.toNatClampNeg (some v)) (k := (mS h a).1) rfl hs, mR_wR_self]
    rfl
  have hm := mtys_get cA (show 13 ≤ (mS h a).1 by omega) hs2
  rw [ht] at hm
  exact va_astq (r := (mCn (mS h v).1, mTT (mS h v).1, mnf (mS h v).1)) hx hb hK hP (mwl_D cA B h) hS (a - B) ((mS h a).1 - 13) (v - B) (mS h v).1 he hm (by rw [mwl_get v1 v2, mce_obj rfl hv]) (classes_get hv) hi hd (fun H1 locs1 hP1 _ hS1 => kk H1 locs1 (hR.one hs2 (mOne_wR _ _ _ _) hc2 hP1 hS1))
end Snd
