/-! TEXTS: length() and charAt() of the constants, as the JDK has them -/
theorem dJ0_length_8abf5_0 : decode cJ0_length_8abf5 0 = .ok (.aload_n 0, 1) := by decide +kernel
theorem dJ0_length_8abf5_1 : decode cJ0_length_8abf5 1 = .ok (.getfield 9, 3) := by decide +kernel
theorem dJ0_length_8abf5_4 : decode cJ0_length_8abf5 4 = .ok (.arraylength, 1) := by decide +kernel
theorem dJ0_length_8abf5_5 : decode cJ0_length_8abf5 5 = .ok (.aload_n 0, 1) := by decide +kernel
theorem dJ0_length_8abf5_6 : decode cJ0_length_8abf5 6 = .ok (.invokevirtual 335, 3) := by decide +kernel
theorem dJ0_length_8abf5_9 : decode cJ0_length_8abf5 9 = .ok (.ishr, 1) := by decide +kernel
theorem dJ0_length_8abf5_10 : decode cJ0_length_8abf5 10 = .ok (.ireturn, 1) := by decide +kernel
theorem dJ0_charAt_5068e_0 : decode cJ0_charAt_5068e 0 = .ok (.aload_n 0, 1) := by decide +kernel
theorem dJ0_charAt_5068e_1 : decode cJ0_charAt_5068e 1 = .ok (.invokevirtual 492, 3) := by decide +kernel
theorem dJ0_charAt_5068e_4 : decode cJ0_charAt_5068e 4 = .ok (.ifCond .eq 12, 3) := by decide +kernel
theorem dJ0_charAt_5068e_7 : decode cJ0_charAt_5068e 7 = .ok (.aload_n 0, 1) := by decide +kernel
theorem dJ0_charAt_5068e_8 : decode cJ0_charAt_5068e 8 = .ok (.getfield 9, 3) := by decide +kernel
theorem dJ0_charAt_5068e_11 : decode cJ0_charAt_5068e 11 = .ok (.iload_n 1, 1) := by decide +kernel
theorem dJ0_charAt_5068e_12 : decode cJ0_charAt_5068e 12 = .ok (.invokestatic 495, 3) := by decide +kernel
theorem dJ0_charAt_5068e_15 : decode cJ0_charAt_5068e 15 = .ok (.ireturn, 1) := by decide +kernel
theorem dJ0_charAt_5068e_16 : decode cJ0_charAt_5068e 16 = .ok (.aload_n 0, 1) := by decide +kernel
theorem dJ0_charAt_5068e_17 : decode cJ0_charAt_5068e 17 = .ok (.getfield 9, 3) := by decide +kernel
theorem dJ0_charAt_5068e_20 : decode cJ0_charAt_5068e 20 = .ok (.iload_n 1, 1) := by decide +kernel
theorem dJ0_charAt_5068e_21 : decode cJ0_charAt_5068e 21 = .ok (.invokestatic 498, 3) := by decide +kernel
theorem dJ0_charAt_5068e_24 : decode cJ0_charAt_5068e 24 = .ok (.ireturn, 1) := by decide +kernel
theorem dJ0_coder_7d493_0 : decode cJ0_coder_7d493 0 = .ok (.getstatic 38, 3) := by decide +kernel
theorem dJ0_coder_7d493_3 : decode cJ0_coder_7d493 3 = .ok (.ifCond .eq 10, 3) := by decide +kernel
theorem dJ0_coder_7d493_6 : decode cJ0_coder_7d493 6 = .ok (.aload_n 0, 1) := by decide +kernel
theorem dJ0_coder_7d493_7 : decode cJ0_coder_7d493 7 = .ok (.getfield 15, 3) := by decide +kernel
theorem dJ0_coder_7d493_10 : decode cJ0_coder_7d493 10 = .ok (.goto 4, 3) := by decide +kernel
theorem dJ0_coder_7d493_13 : decode cJ0_coder_7d493 13 = .ok (.iconst 1, 1) := by decide +kernel
theorem dJ0_coder_7d493_14 : decode cJ0_coder_7d493 14 = .ok (.ireturn, 1) := by decide +kernel
theorem dJ0_isLatin1_aae02_0 : decode cJ0_isLatin1_aae02 0 = .ok (.getstatic 38, 3) := by decide +kernel
theorem dJ0_isLatin1_aae02_3 : decode cJ0_isLatin1_aae02 3 = .ok (.ifCond .eq 14, 3) := by decide +kernel
theorem dJ0_isLatin1_aae02_6 : decode cJ0_isLatin1_aae02 6 = .ok (.aload_n 0, 1) := by decide +kernel
theorem dJ0_isLatin1_aae02_7 : decode cJ0_isLatin1_aae02 7 = .ok (.getfield 15, 3) := by decide +kernel
theorem dJ0_isLatin1_aae02_10 : decode cJ0_isLatin1_aae02 10 = .ok (.ifCond .ne 7, 3) := by decide +kernel
theorem dJ0_isLatin1_aae02_13 : decode cJ0_isLatin1_aae02 13 = .ok (.iconst 1, 1) := by decide +kernel
theorem dJ0_isLatin1_aae02_14 : decode cJ0_isLatin1_aae02 14 = .ok (.goto 4, 3) := by decide +kernel
theorem dJ0_isLatin1_aae02_17 : decode cJ0_isLatin1_aae02 17 = .ok (.iconst 0, 1) := by decide +kernel
theorem dJ0_isLatin1_aae02_18 : decode cJ0_isLatin1_aae02 18 = .ok (.ireturn, 1) := by decide +kernel
theorem dJ0_checkIndex_df160_0 : decode cJ0_checkIndex_df160 0 = .ok (.iload_n 0, 1) := by decide +kernel
theorem dJ0_checkIndex_df160_1 : decode cJ0_checkIndex_df160 1 = .ok (.iload_n 1, 1) := by decide +kernel
theorem dJ0_checkIndex_df160_2 : decode cJ0_checkIndex_df160 2 = .ok (.getstatic 1053, 3) := by decide +kernel
theorem dJ0_checkIndex_df160_5 : decode cJ0_checkIndex_df160 5 = .ok (.invokestatic 1059, 3) := by decide +kernel
theorem dJ0_checkIndex_df160_8 : decode cJ0_checkIndex_df160 8 = .ok (.pop, 1) := by decide +kernel
theorem dJ0_checkIndex_df160_9 : decode cJ0_checkIndex_df160 9 = .ok (.return_, 1) := by decide +kernel
theorem dJ1_charAt_3b067_0 : decode cJ1_charAt_3b067 0 = .ok (.iload_n 1, 1) := by decide +kernel
theorem dJ1_charAt_3b067_1 : decode cJ1_charAt_3b067 1 = .ok (.aload_n 0, 1) := by decide +kernel
theorem dJ1_charAt_3b067_2 : decode cJ1_charAt_3b067 2 = .ok (.arraylength, 1) := by decide +kernel
theorem dJ1_charAt_3b067_3 : decode cJ1_charAt_3b067 3 = .ok (.invokestatic 9, 3) := by decide +kernel
theorem dJ1_charAt_3b067_6 : decode cJ1_charAt_3b067 6 = .ok (.aload_n 0, 1) := by decide +kernel
theorem dJ1_charAt_3b067_7 : decode cJ1_charAt_3b067 7 = .ok (.iload_n 1, 1) := by decide +kernel
theorem dJ1_charAt_3b067_8 : decode cJ1_charAt_3b067 8 = .ok (.baload, 1) := by decide +kernel
theorem dJ1_charAt_3b067_9 : decode cJ1_charAt_3b067 9 = .ok (.sipush 255, 3) := by decide +kernel
theorem dJ1_charAt_3b067_12 : decode cJ1_charAt_3b067 12 = .ok (.iand, 1) := by decide +kernel
theorem dJ1_charAt_3b067_13 : decode cJ1_charAt_3b067 13 = .ok (.i2c, 1) := by decide +kernel
theorem dJ1_charAt_3b067_14 : decode cJ1_charAt_3b067 14 = .ok (.ireturn, 1) := by decide +kernel
theorem dJ3_checkIndex_8e157_0 : decode cJ3_checkIndex_8e157 0 = .ok (.iload_n 0, 1) := by decide +kernel
theorem dJ3_checkIndex_8e157_1 : decode cJ3_checkIndex_8e157 1 = .ok (.ifCond .lt 8, 3) := by decide +kernel
theorem dJ3_checkIndex_8e157_4 : decode cJ3_checkIndex_8e157 4 = .ok (.iload_n 0, 1) := by decide +kernel
theorem dJ3_checkIndex_8e157_5 : decode cJ3_checkIndex_8e157 5 = .ok (.iload_n 1, 1) := by decide +kernel
theorem dJ3_checkIndex_8e157_6 : decode cJ3_checkIndex_8e157 6 = .ok (.if_icmp .lt 10, 3) := by decide +kernel
theorem dJ3_checkIndex_8e157_9 : decode cJ3_checkIndex_8e157 9 = .ok (.aload_n 2, 1) := by decide +kernel
theorem dJ3_checkIndex_8e157_10 : decode cJ3_checkIndex_8e157 10 = .ok (.iload_n 0, 1) := by decide +kernel
theorem dJ3_checkIndex_8e157_11 : decode cJ3_checkIndex_8e157 11 = .ok (.iload_n 1, 1) := by decide +kernel
theorem dJ3_checkIndex_8e157_12 : decode cJ3_checkIndex_8e157 12 = .ok (.invokestatic 95, 3) := by decide +kernel
theorem dJ3_checkIndex_8e157_15 : decode cJ3_checkIndex_8e157 15 = .ok (.athrow, 1) := by decide +kernel
theorem dJ3_checkIndex_8e157_16 : decode cJ3_checkIndex_8e157 16 = .ok (.iload_n 0, 1) := by decide +kernel
theorem dJ3_checkIndex_8e157_17 : decode cJ3_checkIndex_8e157 17 = .ok (.ireturn, 1) := by decide +kernel
def sWs (y : MethodName) (b : ByteArray) (n : Nat) (rt : Option FieldType) : List Cond := Cond.code y b n rt :: mTB
/-- a method that changes nothing: what it answers -/
def sMt (ad : mA) (B : Nat) (l : Launch) (y : MethodName) (b : ByteArray) (n : Nat) (rt : Option FieldType) (k : Nat) (F : State → Prop) (A : List Value) (r : Option Value) : Prop :=
  Met l y (sWs y b n rt) (mRm k 0 0) (fun v U => v = A.toArray ∧ mO2 ad B U U.heap ∧ F U) (fun _ st o t => o = .returned r ∧ t.heap = st.heap) 0 0 (fun _ => False)
theorem sWs_in {y : MethodName} {b : ByteArray} {n : Nat} {rt : Option FieldType} (h : Cond.code y b n rt ∈ mTB) : GoodIn mTB (sWs y b n rt) := fun w hw => by
  rcases List.mem_cons.mp hw with rfl | hw
  · exact ⟨h, mTB_good h⟩
  · exact ⟨hw, mTB_good hw⟩
section Txt
variable {ad : mA} {B : Nat} {p : Program} {l : Launch} {e : Env} {R : Room} {s : State} {m : MethodId} {args : Array Value} {below : List Frame} {meth : Method} {c : Code} {pc : Nat} {ls : Array Slot} {r st0 : List Value} {H : Heap} {locs : List Loc} {z1 z2 : Nat} {Qw : State → Prop} {cc : ByteArray} {nL : Nat} {own : String}
theorem s_pback {v : Option Value} (hr : va_Run p l e R s m args below meth c H locs z1 z2 0 0 (F0 m pc ls st0) r (fun st o t => o = .returned v ∧ t.heap = st.heap) (fun _ => False)) (kk : W p l e R s m args below meth c H locs z1 z2 Qw (F0 m (pc + 3) ls (v.toList ++ r))) : W p l e R s m args below meth c H locs z1 z2 Qw (F0 m pc ls st0) := by
  intro T hT X
  obtain ⟨v', st₀, t, T', L, h0, X', hL, e1, e2, ⟨hv, hh⟩, st⟩ := hr T hT X
  cases hv
  have hL0 : L = [] := List.eq_nil_iff_forall_not_mem.mpr (fun q hq => hL q hq)
  subst hL0
  rw [List.append_nil] at X'
  have e3 : T'.heap = H := by rw [e1, hh, h0]
  obtain ⟨t2, a1, b1⟩ := kk T' e3 X'
  exact ⟨t2, st t2 a1, b1⟩
theorem s_pV {y : MethodName} {b : ByteArray} {n k np i a : Nat} {rt : Option FieldType} {A : List Value} {v : Option Value} (S : CallFix p m c cc nL s args mTB own) {F : State → Prop} (hM : sMt ad B l y b n rt k F (.ref a :: A) v) (hFb : ∀ (a : Array Value) (U : State) (g : JFrame) (mk : MethodId), F U → F (U.calling g mk a)) (hF : ∀ U : State, U.heap = H → s.WarmedH U.vm → F U) (hO : mO2 ad B s s.heap) (hS : va_S (fun q => B ≤ q) s.heap H locs) (hrec : va_O y.cls a (fun q => B ≤ q) s s.heap)
    (g1 : Cond.methodLink own i y ∈ mTB) (g2 : Cond.instanceMethod y ∈ mTB) (g3 : Cond.selects y.cls y y ∈ mTB) (g4 : Cond.initialized y.cls ∈ mTB) (g5 : Cond.code y b n rt ∈ mTB) (hd : y.cls ≠ "java/lang/invoke/MethodHandle" ∧ y.cls ≠ "java/lang/invoke/VarHandle" ∧ (parseMethodDescriptor y.desc).map (fun d => d.parameters.length) = some np) (hR : k + 1 ≤ R.frames ∧ 8 + (n + 11) + 100 * k ≤ R.locals) (hA : A.length = np) (hls : ls.size = nL) (h8 : (r.map fun v => v.category).sum ≤ 8) (hdg : decode cc pc = .ok (.invokevirtual i, 3)) (hc : z1 ≤ R.cells ∧ z2 ≤ R.slots)
    (kk : W p l e R s m args below meth c H locs z1 z2 Qw (F0 m (pc + 3) ls (v.toList ++ r))) : W p l e R s m args below meth c H locs z1 z2 Qw (F0 m pc ls (A.reverse ++ .ref a :: r)) := by
  have hgood : GoodIn mTB (wsV own i y.cls y (sWs y b n rt)) := by
    intro w hw
    rcases List.mem_append.mp hw with hw | hw
    · simp only [List.mem_cons, List.not_mem_nil, or_false] at hw
      rcases hw with rfl | rfl | rfl | rfl
      · exact ⟨g1, mTB_good g1⟩
      · exact ⟨g2, mTB_good g2⟩
      · exact ⟨g3, mTB_good g3⟩
      · exact ⟨g4, mTB_good g4⟩
    · exact sWs_in g5 w hw
  obtain ⟨cell, r1, r2, r3, -⟩ := hrec.kept (fun a ha hb => hS.2.1 a ha hb)
  exact s_pback (va_runV (As := A) S hM (cwV np S.2.2.2.2 hgood rfl rfl rfl ⟨rfl, hd⟩ hR) ⟨fun a U g mk q => ⟨q.1, mO2.same (u := U) (U := U.calling g mk a) rfl q.2.1, hFb a U g mk q.2.2⟩, ⟨cell, r1, r2, r3⟩, fun U hU hW => ⟨rfl, by rw [hU]; exact mO2.to hW (fun a ha hb => hS.2.1 a ha hb) hO, hF U hU hW⟩⟩ rfl hA hls rfl (lv_room h8) hdg hc) kk
theorem s_pS {y : MethodName} {b : ByteArray} {n k np i : Nat} {rt : Option FieldType} {A : List Value} {v : Option Value} (S : CallFix p m c cc nL s args mTB own) {F : State → Prop} (hM : sMt ad B l y b n rt k F A v) (hFb : ∀ (a : Array Value) (U : State) (g : JFrame) (mk : MethodId), F U → F (U.calling g mk a)) (hF : ∀ U : State, U.heap = H → s.WarmedH U.vm → F U) (hO : mO2 ad B s s.heap) (hS : va_S (fun q => B ≤ q) s.heap H locs)
    (g1 : Cond.methodLink own i y ∈ mTB) (g2 : Cond.static y ∈ mTB) (g4 : Cond.initialized y.cls ∈ mTB) (g5 : Cond.code y b n rt ∈ mTB) (hd : y.cls ≠ "java/lang/invoke/MethodHandle" ∧ y.cls ≠ "java/lang/invoke/VarHandle" ∧ (parseMethodDescriptor y.desc).map (fun d => d.parameters.length) = some np) (hR : k + 1 ≤ R.frames ∧ 8 + (n + 11) + 100 * k ≤ R.locals) (hA : A.length = np) (hls : ls.size = nL) (h8 : (r.map fun v => v.category).sum ≤ 8) (hdg : decode cc pc = .ok (.invokestatic i, 3)) (hc : z1 ≤ R.cells ∧ z2 ≤ R.slots)
    (kk : W p l e R s m args below meth c H locs z1 z2 Qw (F0 m (pc + 3) ls (v.toList ++ r))) : W p l e R s m args below meth c H locs z1 z2 Qw (F0 m pc ls (A.reverse ++ r)) :=
  s_pback (va_runS (As := A) S hM ⟨callB_of np S.2.2.2.2 (sWs_in g5) rfl rfl rfl (S.2.2.2.2 _ g4) (S.2.2.2.2 _ g1) hd hR, S.2.2.2.2 _ g2⟩ ⟨fun a U g mk q => ⟨q.1, mO2.same (u := U) (U := U.calling g mk a) rfl q.2.1, hFb a U g mk q.2.2⟩, fun U hU hW => ⟨rfl, by rw [hU]; exact mO2.to hW (fun a ha hb => hS.2.1 a ha hb) hO, hF U hU hW⟩⟩ rfl hA hls rfl (lv_room h8) hdg hc) kk
end Txt
theorem t_coder (l : Launch) (ad : mA) (B : Nat) (j : Nat) (hj : 5 ≤ j ∧ j < 20) : sMt ad B l yJ0_coder_7d493 cJ0_coder_7d493 1 (some .byte) 0 (fun _ => True) [.ref (ad.1 j)] (some (.int 0)) := by
  refine Met.ofW (cc := cJ0_coder_7d493) (maxL := 1) (ret := (some .byte)) (by decide +kernel) rfl ?_
  intro p e s m args below meth c s₁ B0 hml hv
  obtain ⟨rfl, hO, hFF⟩ := hv
  have hx := B0.exec
  have hb := B0.bytes
  have hr := B0.returns
  have hts0 := atoms_spec (ws := sWs yJ0_coder_7d493 cJ0_coder_7d493 1 (some .byte)) B0.pre
  have hts : ∀ w ∈ mTB, w.before _ s = true := fun w hw => hts0 w (List.mem_cons_of_mem _ hw)
  have hown : s.vm.findClass RJ0 = some m.cls := findClass_of_methodNamed B0.named
  have hlk := B0.notSynchronized
  have hS : va_S (fun q => B ≤ q) s.heap s.heap [] := va_S.rf
  have hl := lv_entry ([.ref (ad.1 j)]) (n := 1) (Nat.le_of_ble_eq_true rfl)
  rw [lg_entry_eq]
  generalize (lg_sl ([.ref (ad.1 j)]) ++ List.replicate (1 - (lg_sl ([.ref (ad.1 j)])).length) Slot.unset).toArray = ls at hl ⊢
  have hl : lv_has ls 1 [(0, .ref (ad.1 j))] := hl
  obtain ⟨hn, v, hO1, hO2, hO3, hO4⟩ := hO.2.2.2.2.2.2.1 j hj.1 hj.2
  refine va_gets hx hb hO.2.2.2.2.1 hS hown (hts (.fieldLink RJ0 38 "java/lang/String" "COMPACT_STRINGS" "Z") (in3 69 rfl rfl)) (fun _ h9 => h9) dJ0_coder_7d493_0 ?_
  refine lv_if_eq (tgt := 13) hx hb dJ0_coder_7d493_3 (by decide) (fun q => absurd q (by decide)) (fun _ => ?_)
  refine lv_aload_n hx hb dJ0_coder_7d493_6 rfl (lv_at hl 0 rfl) ?_
  refine vk_getf hx hb hO3 hS hown (hts (.fieldLink RJ0 15 "java/lang/String" "coder" "B") (in9 206 rfl rfl)) (fun _ h9 => h9) dJ0_coder_7d493_7 ?_
  refine lv_goto (tgt := 14) hx hb dJ0_coder_7d493_10 (by decide) ?_
  exact W.zret hx hb hr rfl (fun t ht _ => ⟨rfl, ht⟩) (fun q hq => by cases hq) dJ0_coder_7d493_14 hlk
theorem t_isLatin1 (l : Launch) (ad : mA) (B : Nat) (j : Nat) (hj : 5 ≤ j ∧ j < 20) : sMt ad B l yJ0_isLatin1_aae02 cJ0_isLatin1_aae02 1 (some .boolean) 0 (fun _ => True) [.ref (ad.1 j)] (some (.int 1)) := by
  refine Met.ofW (cc := cJ0_isLatin1_aae02) (maxL := 1) (ret := (some .boolean)) (by decide +kernel) rfl ?_
  intro p e s m args below meth c s₁ B0 hml hv
  obtain ⟨rfl, hO, hFF⟩ := hv
  have hx := B0.exec
  have hb := B0.bytes
  have hr := B0.returns
  have hts0 := atoms_spec (ws := sWs yJ0_isLatin1_aae02 cJ0_isLatin1_aae02 1 (some .boolean)) B0.pre
  have hts : ∀ w ∈ mTB, w.before _ s = true := fun w hw => hts0 w (List.mem_cons_of_mem _ hw)
  have hown : s.vm.findClass RJ0 = some m.cls := findClass_of_methodNamed B0.named
  have hlk := B0.notSynchronized
  have hS : va_S (fun q => B ≤ q) s.heap s.heap [] := va_S.rf
  have hl := lv_entry ([.ref (ad.1 j)]) (n := 1) (Nat.le_of_ble_eq_true rfl)
  rw [lg_entry_eq]
  generalize (lg_sl ([.ref (ad.1 j)]) ++ List.replicate (1 - (lg_sl ([.ref (ad.1 j)])).length) Slot.unset).toArray = ls at hl ⊢
  have hl : lv_has ls 1 [(0, .ref (ad.1 j))] := hl
  obtain ⟨hn, v, hO1, hO2, hO3, hO4⟩ := hO.2.2.2.2.2.2.1 j hj.1 hj.2
  refine va_gets hx hb hO.2.2.2.2.1 hS hown (hts (.fieldLink RJ0 38 "java/lang/String" "COMPACT_STRINGS" "Z") (in3 69 rfl rfl)) (fun _ h9 => h9) dJ0_isLatin1_aae02_0 ?_
  refine lv_if_eq (tgt := 17) hx hb dJ0_isLatin1_aae02_3 (by decide) (fun q => absurd q (by decide)) (fun _ => ?_)
  refine lv_aload_n hx hb dJ0_isLatin1_aae02_6 rfl (lv_at hl 0 rfl) ?_
  refine vk_getf hx hb hO3 hS hown (hts (.fieldLink RJ0 15 "java/lang/String" "coder" "B") (in9 206 rfl rfl)) (fun _ h9 => h9) dJ0_isLatin1_aae02_7 ?_
  refine lv_if_ne (tgt := 17) hx hb dJ0_isLatin1_aae02_10 (by decide) (fun q => absurd rfl q) (fun _ => ?_)
  refine lv_iconst (v := 1) hx hb dJ0_isLatin1_aae02_13 (by decide) ?_
  refine lv_goto (tgt := 18) hx hb dJ0_isLatin1_aae02_14 (by decide) ?_
  exact W.zret hx hb hr rfl (fun t ht _ => ⟨rfl, ht⟩) (fun q hq => by cases hq) dJ0_isLatin1_aae02_18 hlk
theorem t_length (l : Launch) (ad : mA) (B : Nat) (j : Nat) (hj : 5 ≤ j ∧ j < 20) : sMt ad B l yJ0_length_8abf5 cJ0_length_8abf5 1 (some .int) 1 (fun _ => True) [.ref (ad.1 j)] (some (.int (Int32.ofNat (ad.2.1 j)))) := by
  refine Met.ofW (cc := cJ0_length_8abf5) (maxL := 1) (ret := (some .int)) (by decide +kernel) rfl ?_
  intro p e s m args below meth c s₁ B0 hml hv
  obtain ⟨rfl, hO, hFF⟩ := hv
  have hx := B0.exec
  have hb := B0.bytes
  have hr := B0.returns
  have hts0 := atoms_spec (ws := sWs yJ0_length_8abf5 cJ0_length_8abf5 1 (some .int)) B0.pre
  have hts : ∀ w ∈ mTB, w.before _ s = true := fun w hw => hts0 w (List.mem_cons_of_mem _ hw)
  have hown : s.vm.findClass RJ0 = some m.cls := findClass_of_methodNamed B0.named
  have hlk := B0.notSynchronized
  have hS : va_S (fun q => B ≤ q) s.heap s.heap [] := va_S.rf
  have hl := lv_entry ([.ref (ad.1 j)]) (n := 1) (Nat.le_of_ble_eq_true rfl)
  rw [lg_entry_eq]
  generalize (lg_sl ([.ref (ad.1 j)]) ++ List.replicate (1 - (lg_sl ([.ref (ad.1 j)])).length) Slot.unset).toArray = ls at hl ⊢
  have hl : lv_has ls 1 [(0, .ref (ad.1 j))] := hl
  obtain ⟨hn, v, hO1, hO2, hO3, hO4⟩ := hO.2.2.2.2.2.2.1 j hj.1 hj.2
  refine lv_aload_n hx hb dJ0_length_8abf5_0 rfl (lv_at hl 0 rfl) ?_
  refine vk_getf hx hb hO2 hS hown (hts (.fieldLink RJ0 9 "java/lang/String" "value" "[B") (in9 205 rfl rfl)) (fun _ h9 => h9) dJ0_length_8abf5_1 ?_
  refine va_tlen hx hb hO4 hS rfl dJ0_length_8abf5_4 ?_
  refine lv_aload_n hx hb dJ0_length_8abf5_5 rfl (lv_at hl 0 rfl) ?_
  refine s_pV (np := 0) (A := []) (l := l) ⟨hx, hb, hml, hown, hts⟩ (t_coder l ad B j hj) (fun _ _ _ _ _ => trivial) (fun _ _ _ => trivial) hO hS hO1 (in3 65 rfl rfl) (in3 66 rfl rfl) (in3 67 rfl rfl) (in1 17 rfl rfl) (in3 68 rfl rfl) ⟨by decide +kernel, by decide +kernel, by decide +kernel⟩ ⟨Nat.le_of_ble_eq_true rfl, Nat.le_of_ble_eq_true rfl⟩ rfl hl.1 (Nat.le_of_ble_eq_true rfl) dJ0_length_8abf5_6 ⟨Nat.zero_le _, Nat.zero_le _⟩ ?_
  refine lv_ishr hx hb dJ0_length_8abf5_9 ?_
  have e9 : Int32.ofNat (ad.2.1 j) >>> ((0 : Int32) &&& 31) = Int32.ofNat (ad.2.1 j) := sc_shr0 hn
  rw [e9]
  exact W.zret hx hb hr rfl (fun t ht _ => ⟨rfl, ht⟩) (fun q hq => by cases hq) dJ0_length_8abf5_10 hlk
theorem t_pcheckN (l : Launch) (ad : mA) (B : Nat) (x n : Int32) (h0 : ¬ x < 0) (h1 : x < n) : sMt ad B l yJ3_checkIndex_8e157 cJ3_checkIndex_8e157 3 (some .int) 0 (fun _ => True) [.int x, .int n, .null] (some (.int x)) := by
  refine Met.ofW (cc := cJ3_checkIndex_8e157) (maxL := 3) (ret := (some .int)) (by decide +kernel) rfl ?_
  intro p e s m args below meth c s₁ B0 hml hv
  obtain ⟨rfl, hO, hFF⟩ := hv
  have hx := B0.exec
  have hb := B0.bytes
  have hr := B0.returns
  have hts0 := atoms_spec (ws := sWs yJ3_checkIndex_8e157 cJ3_checkIndex_8e157 3 (some .int)) B0.pre
  have hts : ∀ w ∈ mTB, w.before _ s = true := fun w hw => hts0 w (List.mem_cons_of_mem _ hw)
  have hown : s.vm.findClass RJ3 = some m.cls := findClass_of_methodNamed B0.named
  have hlk := B0.notSynchronized
  have hS : va_S (fun q => B ≤ q) s.heap s.heap [] := va_S.rf
  have hl := lv_entry ([.int x, .int n, .null]) (n := 3) (Nat.le_of_ble_eq_true rfl)
  rw [lg_entry_eq]
  generalize (lg_sl ([.int x, .int n, .null]) ++ List.replicate (3 - (lg_sl ([.int x, .int n, .null])).length) Slot.unset).toArray = ls at hl ⊢
  have hl : lv_has ls 3 [(0, .int x), (1, .int n), (2, .null)] := hl
  refine lv_iload_n hx hb dJ3_checkIndex_8e157_0 rfl (lv_at hl 0 rfl) ?_
  refine lv_if_lt (tgt := 9) hx hb dJ3_checkIndex_8e157_1 (by decide) (fun q => absurd q h0) (fun _ => ?_)
  refine lv_iload_n hx hb dJ3_checkIndex_8e157_4 rfl (lv_at hl 0 rfl) ?_
  refine lv_iload_n hx hb dJ3_checkIndex_8e157_5 rfl (lv_at hl 1 rfl) ?_
  refine lv_icmp_lt (tgt := 16) hx hb dJ3_checkIndex_8e157_6 (by decide) (fun _ => ?_) (fun q => absurd h1 q)
  refine lv_iload_n hx hb dJ3_checkIndex_8e157_16 rfl (lv_at hl 0 rfl) ?_
  exact W.zret hx hb hr rfl (fun t ht _ => ⟨rfl, ht⟩) (fun q hq => by cases hq) dJ3_checkIndex_8e157_17 hlk
theorem t_pcheckR (l : Launch) (ad : mA) (B : Nat) (x n : Int32) (g : Nat) (h0 : ¬ x < 0) (h1 : x < n) : sMt ad B l yJ3_checkIndex_8e157 cJ3_checkIndex_8e157 3 (some .int) 0 (fun _ => True) [.int x, .int n, .ref g] (some (.int x)) := by
  refine Met.ofW (cc := cJ3_checkIndex_8e157) (maxL := 3) (ret := (some .int)) (by decide +kernel) rfl ?_
  intro p e s m args below meth c s₁ B0 hml hv
  obtain ⟨rfl, hO, hFF⟩ := hv
  have hx := B0.exec
  have hb := B0.bytes
  have hr := B0.returns
  have hts0 := atoms_spec (ws := sWs yJ3_checkIndex_8e157 cJ3_checkIndex_8e157 3 (some .int)) B0.pre
  have hts : ∀ w ∈ mTB, w.before _ s = true := fun w hw => hts0 w (List.mem_cons_of_mem _ hw)
  have hown : s.vm.findClass RJ3 = some m.cls := findClass_of_methodNamed B0.named
  have hlk := B0.notSynchronized
  have hS : va_S (fun q => B ≤ q) s.heap s.heap [] := va_S.rf
  have hl := lv_entry ([.int x, .int n, .ref g]) (n := 3) (Nat.le_of_ble_eq_true rfl)
  rw [lg_entry_eq]
  generalize (lg_sl ([.int x, .int n, .ref g]) ++ List.replicate (3 - (lg_sl ([.int x, .int n, .ref g])).length) Slot.unset).toArray = ls at hl ⊢
  have hl : lv_has ls 3 [(0, .int x), (1, .int n), (2, .ref g)] := hl
  refine lv_iload_n hx hb dJ3_checkIndex_8e157_0 rfl (lv_at hl 0 rfl) ?_
  refine lv_if_lt (tgt := 9) hx hb dJ3_checkIndex_8e157_1 (by decide) (fun q => absurd q h0) (fun _ => ?_)
  refine lv_iload_n hx hb dJ3_checkIndex_8e157_4 rfl (lv_at hl 0 rfl) ?_
  refine lv_iload_n hx hb dJ3_checkIndex_8e157_5 rfl (lv_at hl 1 rfl) ?_
  refine lv_icmp_lt (tgt := 16) hx hb dJ3_checkIndex_8e157_6 (by decide) (fun _ => ?_) (fun q => absurd h1 q)
  refine lv_iload_n hx hb dJ3_checkIndex_8e157_16 rfl (lv_at hl 0 rfl) ?_
  exact W.zret hx hb hr rfl (fun t ht _ => ⟨rfl, ht⟩) (fun q hq => by cases hq) dJ3_checkIndex_8e157_17 hlk
theorem t_checkIndex (l : Launch) (ad : mA) (B : Nat) (x n : Int32) (h0 : ¬ x < 0) (h1 : x < n) : sMt ad B l yJ0_checkIndex_df160 cJ0_checkIndex_df160 2 none 1 (fun _ => True) [.int x, .int n] none := by
  refine Met.ofW (cc := cJ0_checkIndex_df160) (maxL := 2) (ret := none) (by decide +kernel) rfl ?_
  intro p e s m args below meth c s₁ B0 hml hv
  obtain ⟨rfl, hO, hFF⟩ := hv
  have hx := B0.exec
  have hb := B0.bytes
  have hr := B0.returns
  have hts0 := atoms_spec (ws := sWs yJ0_checkIndex_df160 cJ0_checkIndex_df160 2 none) B0.pre
  have hts : ∀ w ∈ mTB, w.before _ s = true := fun w hw => hts0 w (List.mem_cons_of_mem _ hw)
  have hown : s.vm.findClass RJ0 = some m.cls := findClass_of_methodNamed B0.named
  have hlk := B0.notSynchronized
  have hS : va_S (fun q => B ≤ q) s.heap s.heap [] := va_S.rf
  have hl := lv_entry ([.int x, .int n]) (n := 2) (Nat.le_of_ble_eq_true rfl)
  rw [lg_entry_eq]
  generalize (lg_sl ([.int x, .int n]) ++ List.replicate (2 - (lg_sl ([.int x, .int n])).length) Slot.unset).toArray = ls at hl ⊢
  have hl : lv_has ls 2 [(0, .int x), (1, .int n)] := hl
  refine lv_iload_n hx hb dJ0_checkIndex_df160_0 rfl (lv_at hl 0 rfl) ?_
  refine lv_iload_n hx hb dJ0_checkIndex_df160_1 rfl (lv_at hl 1 rfl) ?_
  rcases hO.2.2.2.2.2.2.2 with hZ | ⟨g, hZ⟩
  · refine va_gets hx hb hZ hS hown (hts (.fieldLink RJ0 1053 "jdk/internal/util/Preconditions" "SIOOBE_FORMATTER" "Ljava/util/function/BiFunction;") (in3 85 rfl rfl)) (fun _ h9 => h9) dJ0_checkIndex_df160_2 ?_
    refine s_pS (np := 3) (A := [.int x, .int n, .null]) (l := l) ⟨hx, hb, hml, hown, hts⟩ (t_pcheckN l ad B x n h0 h1) (fun _ _ _ _ _ => trivial) (fun _ _ _ => trivial) hO hS (in3 87 rfl rfl) (in3 88 rfl rfl) (in1 19 rfl rfl) (in3 89 rfl rfl) ⟨by decide +kernel, by decide +kernel, by decide +kernel⟩ ⟨Nat.le_of_ble_eq_true rfl, Nat.le_of_ble_eq_true rfl⟩ rfl hl.1 (Nat.le_of_ble_eq_true rfl) dJ0_checkIndex_df160_5 ⟨Nat.zero_le _, Nat.zero_le _⟩ ?_
    refine lv_pop hx hb dJ0_checkIndex_df160_8 rfl ?_
    exact W.vret hx hb hr (fun t ht _ => ⟨rfl, ht⟩) (fun q hq => by cases hq) dJ0_checkIndex_df160_9 hlk
  · refine va_gets hx hb hZ hS hown (hts (.fieldLink RJ0 1053 "jdk/internal/util/Preconditions" "SIOOBE_FORMATTER" "Ljava/util/function/BiFunction;") (in3 85 rfl rfl)) (fun _ h9 => h9) dJ0_checkIndex_df160_2 ?_
    refine s_pS (np := 3) (A := [.int x, .int n, .ref g]) (l := l) ⟨hx, hb, hml, hown, hts⟩ (t_pcheckR l ad B x n g h0 h1) (fun _ _ _ _ _ => trivial) (fun _ _ _ => trivial) hO hS (in3 87 rfl rfl) (in3 88 rfl rfl) (in1 19 rfl rfl) (in3 89 rfl rfl) ⟨by decide +kernel, by decide +kernel, by decide +kernel⟩ ⟨Nat.le_of_ble_eq_true rfl, Nat.le_of_ble_eq_true rfl⟩ rfl hl.1 (Nat.le_of_ble_eq_true rfl) dJ0_checkIndex_df160_5 ⟨Nat.zero_le _, Nat.zero_le _⟩ ?_
    refine lv_pop hx hb dJ0_checkIndex_df160_8 rfl ?_
    exact W.vret hx hb hr (fun t ht _ => ⟨rfl, ht⟩) (fun q hq => by cases hq) dJ0_checkIndex_df160_9 hlk
theorem t_lcharAt (l : Launch) (ad : mA) (B : Nat) (j : Nat) (a : Nat) (x : Int32) (h0 : ¬ x < 0) (h1 : x < Int32.ofNat (ad.2.1 j)) (hin : vp_in x (ad.2.1 j)) : sMt ad B l yJ1_charAt_3b067 cJ1_charAt_3b067 2 (some .char) 2 (fun U => va_T .byte a (ad.2.1 j) (fun k => .int (ad.2.2 j k)) (fun q => B ≤ q) U U.heap) [.ref a, .int x] (some (.int (ad.2.2 j x.toNatClampNeg &&& 255))) := by
  refine Met.ofW (cc := cJ1_charAt_3b067) (maxL := 2) (ret := (some .char)) (by decide +kernel) rfl ?_
  intro p e s m args below meth c s₁ B0 hml hv
  obtain ⟨rfl, hO, hFF⟩ := hv
  have hx := B0.exec
  have hb := B0.bytes
  have hr := B0.returns
  have hts0 := atoms_spec (ws := sWs yJ1_charAt_3b067 cJ1_charAt_3b067 2 (some .char)) B0.pre
  have hts : ∀ w ∈ mTB, w.before _ s = true := fun w hw => hts0 w (List.mem_cons_of_mem _ hw)
  have hown : s.vm.findClass RJ1 = some m.cls := findClass_of_methodNamed B0.named
  have hlk := B0.notSynchronized
  have hS : va_S (fun q => B ≤ q) s.heap s.heap [] := va_S.rf
  have hl := lv_entry ([.ref a, .int x]) (n := 2) (Nat.le_of_ble_eq_true rfl)
  rw [lg_entry_eq]
  generalize (lg_sl ([.ref a, .int x]) ++ List.replicate (2 - (lg_sl ([.ref a, .int x])).length) Slot.unset).toArray = ls at hl ⊢
  have hl : lv_has ls 2 [(0, .ref a), (1, .int x)] := hl
  have hO4 := hFF
  refine lv_iload_n hx hb dJ1_charAt_3b067_0 rfl (lv_at hl 1 rfl) ?_
  refine lv_aload_n hx hb dJ1_charAt_3b067_1 rfl (lv_at hl 0 rfl) ?_
  refine va_tlen hx hb hO4 hS rfl dJ1_charAt_3b067_2 ?_
  refine s_pS (np := 2) (A := [.int x, .int (Int32.ofNat (ad.2.1 j))]) (l := l) ⟨hx, hb, hml, hown, hts⟩ (t_checkIndex l ad B x _ h0 h1) (fun _ _ _ _ _ => trivial) (fun _ _ _ => trivial) hO hS (in3 82 rfl rfl) (in3 83 rfl rfl) (in1 17 rfl rfl) (in3 84 rfl rfl) ⟨by decide +kernel, by decide +kernel, by decide +kernel⟩ ⟨Nat.le_of_ble_eq_true rfl, Nat.le_of_ble_eq_true rfl⟩ rfl hl.1 (Nat.le_of_ble_eq_true rfl) dJ1_charAt_3b067_3 ⟨Nat.zero_le _, Nat.zero_le _⟩ ?_
  refine lv_aload_n hx hb dJ1_charAt_3b067_6 rfl (lv_at hl 0 rfl) ?_
  refine lv_iload_n hx hb dJ1_charAt_3b067_7 rfl (lv_at hl 1 rfl) ?_
  refine va_tb hx hb hO4 hS hin rfl dJ1_charAt_3b067_8 ?_
  refine lv_sipush (v := 255) hx hb dJ1_charAt_3b067_9 (by decide) ?_
  refine lv_iand hx hb dJ1_charAt_3b067_12 ?_
  refine lv_i2c hx hb dJ1_charAt_3b067_13 (sc_c2 _) ?_
  exact W.zret hx hb hr (sc_nar _) (fun t ht _ => ⟨rfl, ht⟩) (fun q hq => by cases hq) dJ1_charAt_3b067_14 hlk
theorem t_charAt (l : Launch) (ad : mA) (B : Nat) (j : Nat) (hj : 5 ≤ j ∧ j < 20) (x : Int32) (hin : vp_in x (ad.2.1 j)) : sMt ad B l yJ0_charAt_5068e cJ0_charAt_5068e 2 (some .char) 3 (fun _ => True) [.ref (ad.1 j), .int x] (some (.int (ad.2.2 j x.toNatClampNeg &&& 255))) := by
  refine Met.ofW (cc := cJ0_charAt_5068e) (maxL := 2) (ret := (some .char)) (by decide +kernel) rfl ?_
  intro p e s m args below meth c s₁ B0 hml hv
  obtain ⟨rfl, hO, hFF⟩ := hv
  have hx := B0.exec
  have hb := B0.bytes
  have hr := B0.returns
  have hts0 := atoms_spec (ws := sWs yJ0_charAt_5068e cJ0_charAt_5068e 2 (some .char)) B0.pre
  have hts : ∀ w ∈ mTB, w.before _ s = true := fun w hw => hts0 w (List.mem_cons_of_mem _ hw)
  have hown : s.vm.findClass RJ0 = some m.cls := findClass_of_methodNamed B0.named
  have hlk := B0.notSynchronized
  have hS : va_S (fun q => B ≤ q) s.heap s.heap [] := va_S.rf
  have hl := lv_entry ([.ref (ad.1 j), .int x]) (n := 2) (Nat.le_of_ble_eq_true rfl)
  rw [lg_entry_eq]
  generalize (lg_sl ([.ref (ad.1 j), .int x]) ++ List.replicate (2 - (lg_sl ([.ref (ad.1 j), .int x])).length) Slot.unset).toArray = ls at hl ⊢
  have hl : lv_has ls 2 [(0, .ref (ad.1 j)), (1, .int x)] := hl
  obtain ⟨hn, v, hO1, hO2, hO3, hO4⟩ := hO.2.2.2.2.2.2.1 j hj.1 hj.2
  have h0 : ¬ x < 0 := fun q => hin (Or.inl q)
  have h1 : x < Int32.ofNat (ad.2.1 j) := by
    obtain ⟨i, hi, rfl⟩ := vp_in_of hin hn
    exact nI_lt hi hn
  refine lv_aload_n hx hb dJ0_charAt_5068e_0 rfl (lv_at hl 0 rfl) ?_
  refine s_pV (np := 0) (A := []) (l := l) ⟨hx, hb, hml, hown, hts⟩ (t_isLatin1 l ad B j hj) (fun _ _ _ _ _ => trivial) (fun _ _ _ => trivial) hO hS hO1 (in3 75 rfl rfl) (in3 76 rfl rfl) (in3 77 rfl rfl) (in1 17 rfl rfl) (in3 78 rfl rfl) ⟨by decide +kernel, by decide +kernel, by decide +kernel⟩ ⟨Nat.le_of_ble_eq_true rfl, Nat.le_of_ble_eq_true rfl⟩ rfl hl.1 (Nat.le_of_ble_eq_true rfl) dJ0_charAt_5068e_1 ⟨Nat.zero_le _, Nat.zero_le _⟩ ?_
  refine lv_if_eq (tgt := 16) hx hb dJ0_charAt_5068e_4 (by decide) (fun q => absurd q (by decide)) (fun _ => ?_)
  refine lv_aload_n hx hb dJ0_charAt_5068e_7 rfl (lv_at hl 0 rfl) ?_
  refine vk_getf hx hb hO2 hS hown (hts (.fieldLink RJ0 9 "java/lang/String" "value" "[B") (in9 205 rfl rfl)) (fun _ h9 => h9) dJ0_charAt_5068e_8 ?_
  refine lv_iload_n hx hb dJ0_charAt_5068e_11 rfl (lv_at hl 1 rfl) ?_
  refine s_pS (np := 2) (A := [.ref v, .int x]) (l := l) ⟨hx, hb, hml, hown, hts⟩ (t_lcharAt l ad B j v x h0 h1 hin) (fun a U g mk q => va_T.moved (u := U) (U := U.calling g mk a) (Vm.Alike.refl U.vm) q) (fun U hU hW => by rw [hU]; exact va_T.moved hW.alike hO4) hO hS (in3 79 rfl rfl) (in3 80 rfl rfl) (in1 18 rfl rfl) (in3 81 rfl rfl) ⟨by decide +kernel, by decide +kernel, by decide +kernel⟩ ⟨Nat.le_of_ble_eq_true rfl, Nat.le_of_ble_eq_true rfl⟩ rfl hl.1 (Nat.le_of_ble_eq_true rfl) dJ0_charAt_5068e_12 ⟨Nat.zero_le _, Nat.zero_le _⟩ ?_
  exact W.zret hx hb hr (sc_nar _) (fun t ht _ => ⟨rfl, ht⟩) (fun q hq => by cases hq) dJ0_charAt_5068e_15 hlk
theorem hStr0 : mStrAll := by
  intro ad D cA B l M dp lim p e R s m args below meth c pc ls r h H locs z1 z2 Qw i j C hR hE hdp hls hd h8 hj hz1 hz2
  obtain ⟨hK, hP, hG, hS, hB, h2⟩ := hR
  obtain ⟨hx, hb, hr, hml, hown, hts, hlk, hnm, q1, q2, q3, q4, q5⟩ := C
  obtain ⟨hn, v, hO1, -⟩ := h2.2.2.2.2.2.2.1 j hj.1 hj.2
  constructor
  · intro N ht kk
    obtain ⟨j0, hm, -⟩ := tMet_of ht
    have hl : Cond.methodLink (mCn (mMo M)) i yJ0_length_8abf5 ∈ mTB := (gM _ _ hm : PM (mMo M) (i, (6, j0)))
    exact s_pV (np := 0) (A := []) (l := l) ⟨hx, hb, hml, hown, hts⟩ (t_length l ad B j hj) (fun _ _ _ _ _ => trivial) (fun _ _ _ => trivial) h2 hS hO1 hl (in3 62 rfl rfl) (in3 63 rfl rfl) (in1 17 rfl rfl) (in3 64 rfl rfl) ⟨by decide +kernel, by decide +kernel, by decide +kernel⟩ ⟨by omega, by omega⟩ rfl hls h8 hd ⟨by rw [q1]; exact hz1, by rw [q2]; exact hz2⟩ kk
  · intro N x ht hin kk
    obtain ⟨j0, hm, -⟩ := tMet_of ht
    have hl : Cond.methodLink (mCn (mMo M)) i yJ0_charAt_5068e ∈ mTB := (gM _ _ hm : PM (mMo M) (i, (7, j0)))
    exact s_pV (np := 1) (A := [.int x]) (l := l) ⟨hx, hb, hml, hown, hts⟩ (t_charAt l ad B j hj x hin) (fun _ _ _ _ _ => trivial) (fun _ _ _ => trivial) h2 hS hO1 hl (in3 72 rfl rfl) (in3 73 rfl rfl) (in1 17 rfl rfl) (in3 74 rfl rfl) ⟨by decide +kernel, by decide +kernel, by decide +kernel⟩ ⟨by omega, by omega⟩ rfl hls h8 hd ⟨by rw [q1]; exact hz1, by rw [q2]; exact hz2⟩ kk
