/-! the claim out of the law's abstract run -/
/-- the law's abstract run, from an empty heap: it ends, with 1 -/
def mLawOK : Prop := ∀ (ad : mA) (B : Nat), ad.2.1 20 ≤ 3072 → (∀ j, j < 20 → ad.2.1 j = (mKc j).length ∧ ∀ k, ad.2.2 j k = (mKc j).getD k 0) → mEv TB0 ad M_law 800 (600000, 7302250) (mCal TB0 ad 799) (fun v _ _ => v = some (.int 1)) 0 [some (.ref (ad.1 20)), none, none, none] [] (mh0 B) (0, 0)
def mStrAll : Prop := ∀ (ad : mA) (D : va_G) (cA : Nat → ClassId) (B : Nat) (l : Launch), mStrOK TB0 ad D cA B l
theorem whole_of (hSt : mStrAll) (hLaw : mLawOK) {p : Program} {e : Env} {s : State} {m : MethodId} {below : List Frame} {meth : Method} {c : Code} (l : Launch) {b L : Nat} {xs : Nat → Int32} (hL : L ≤ 3072) (C0 : lw_At p s m meth c b L xs) : W p l e room_1 s m #[Value.ref b] below meth c s.heap [] 0 0 (lw_Z below #[Value.ref b] s) (entryFrame m ([Value.ref b] : List Value).toArray 4) := by
  obtain ⟨D, cA, ad, ⟨e1, e2, e3⟩, hk, hR⟩ := stRel hL C0
  obtain ⟨hx, hb, hr, hml, hown, hts, hX, hbl, hlocks, hg⟩ := id C0
  have C : mCx M_law 800 (600000, 7302250) p room_1 s m #[Value.ref b] meth c := ⟨hx, hb, hr, hml, hown, fun w hw => hts w (List.mem_filter.mp hw).1, hlocks, fun q => absurd q (by decide), rfl, rfl, by decide, by decide, by decide⟩
  have hret : mRetOK D cA ad s.heap.size M_law (600000, 7302250) (fun v _ _ => v = some (.int 1)) (lw_Z below #[Value.ref b] s) p l e room_1 s m #[Value.ref b] below meth c := by
    intro pc ls st h z H locs v ins hR hE hz h1 h2 hq hd hv
    cases ins with
    | ireturn =>
      obtain ⟨x, ty, rfl, hrt, hn, rfl⟩ := hv
      have hx1 : x = 1 := by
        have := Option.some.inj hq
        injection this
      subst hx1
      refine va_forget (fun q hq => hR.2.2.2.1.2.2 q hq) ?_
      refine W.widen (k := 600000) (n := 7302250) h1 h2 ?_
      exact lw_ret hx hb hr hlocks hd
    | lreturn =>
      obtain ⟨x, rfl, hrt, rfl⟩ := hv
      cases hq
    | areturn =>
      obtain ⟨x, n, rfl, hrt, rfl⟩ := hv
      cases hrt
    | return_ =>
      obtain ⟨rfl, hrt, rfl⟩ := hv
      cases hq
    | _ => exact False.elim hv
  have hev := hLaw ad s.heap.size (by rw [e2]; exact hL) hk
  have hk2 := hev (mXs D cA ad s.heap.size M_law (600000, 7302250) (lw_Z below #[Value.ref b] s) p l e room_1 s m #[Value.ref b] below meth c) (mSnd C GT0 GW0 (mMt_all GT0 GW0 (hSt ad D cA s.heap.size l) 799) (hSt ad D cA s.heap.size l) hret)
  rw [lg_entry_eq]
  refine hk2 s.heap [] _ hR rfl ⟨rfl, ?_⟩ (Nat.zero_le _) (Nat.zero_le _)
  refine lv_subm (lv_entry [Value.ref b] (n := 4) (Nat.le_of_ble_eq_true rfl)) ?_
  intro q hq
  obtain ⟨i, v⟩ := q
  have h3 := mAs_mem.mp hq
  rw [e1] at h3
  match i, h3 with
  | 0, h3 =>
    have h4 : Value.ref b = v := by simpa using h3
    rw [← h4]
    exact List.mem_cons_self
  | 1, h3 => simp at h3
  | 2, h3 => simp at h3
  | 3, h3 => simp at h3
  | n + 4, h3 => simp at h3
