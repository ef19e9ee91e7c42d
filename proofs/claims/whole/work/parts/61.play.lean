/-! THE REFERENCE'S YEAR: rivet, part, heat, oil -/
theorem dX12_begin_0 : decode cX12_begin 0 = .ok (.aload_n 0, 1) := by decide +kernel
theorem dX12_begin_1 : decode cX12_begin 1 = .ok (.iconst 0, 1) := by decide +kernel
theorem dX12_begin_2 : decode cX12_begin 2 = .ok (.putfield 313, 3) := by decide +kernel
theorem dX12_begin_5 : decode cX12_begin 5 = .ok (.aload_n 0, 1) := by decide +kernel
theorem dX12_begin_6 : decode cX12_begin 6 = .ok (.iconst 0, 1) := by decide +kernel
theorem dX12_begin_7 : decode cX12_begin 7 = .ok (.putfield 316, 3) := by decide +kernel
theorem dX12_begin_10 : decode cX12_begin 10 = .ok (.aload_n 0, 1) := by decide +kernel
theorem dX12_begin_11 : decode cX12_begin 11 = .ok (.iconst 0, 1) := by decide +kernel
theorem dX12_begin_12 : decode cX12_begin 12 = .ok (.putfield 319, 3) := by decide +kernel
theorem dX12_begin_15 : decode cX12_begin 15 = .ok (.aload_n 0, 1) := by decide +kernel
theorem dX12_begin_16 : decode cX12_begin 16 = .ok (.iconst 0, 1) := by decide +kernel
theorem dX12_begin_17 : decode cX12_begin 17 = .ok (.putfield 322, 3) := by decide +kernel
theorem dX12_begin_20 : decode cX12_begin 20 = .ok (.aload_n 0, 1) := by decide +kernel
theorem dX12_begin_21 : decode cX12_begin 21 = .ok (.iconst 0, 1) := by decide +kernel
theorem dX12_begin_22 : decode cX12_begin 22 = .ok (.putfield 325, 3) := by decide +kernel
theorem dX12_begin_25 : decode cX12_begin 25 = .ok (.aload_n 0, 1) := by decide +kernel
theorem dX12_begin_26 : decode cX12_begin 26 = .ok (.iconst 0, 1) := by decide +kernel
theorem dX12_begin_27 : decode cX12_begin 27 = .ok (.putfield 328, 3) := by decide +kernel
theorem dX12_begin_30 : decode cX12_begin 30 = .ok (.return_, 1) := by decide +kernel
theorem dX12_rivets_0 : decode cX12_rivets 0 = .ok (.aload_n 0, 1) := by decide +kernel
theorem dX12_rivets_1 : decode cX12_rivets 1 = .ok (.iload_n 2, 1) := by decide +kernel
theorem dX12_rivets_2 : decode cX12_rivets 2 = .ok (.invokevirtual 298, 3) := by decide +kernel
theorem dX12_rivets_5 : decode cX12_rivets 5 = .ok (.ifCond .eq 24, 3) := by decide +kernel
theorem dX12_rivets_8 : decode cX12_rivets 8 = .ok (.aload_n 0, 1) := by decide +kernel
theorem dX12_rivets_9 : decode cX12_rivets 9 = .ok (.iload_n 1, 1) := by decide +kernel
theorem dX12_rivets_10 : decode cX12_rivets 10 = .ok (.invokevirtual 286, 3) := by decide +kernel
theorem dX12_rivets_13 : decode cX12_rivets 13 = .ok (.ifCond .ne 16, 3) := by decide +kernel
theorem dX12_rivets_16 : decode cX12_rivets 16 = .ok (.aload_n 0, 1) := by decide +kernel
theorem dX12_rivets_17 : decode cX12_rivets 17 = .ok (.getfield 53, 3) := by decide +kernel
theorem dX12_rivets_20 : decode cX12_rivets 20 = .ok (.bipush 6, 2) := by decide +kernel
theorem dX12_rivets_22 : decode cX12_rivets 22 = .ok (.iload_n 2, 1) := by decide +kernel
theorem dX12_rivets_23 : decode cX12_rivets 23 = .ok (.iadd, 1) := by decide +kernel
theorem dX12_rivets_24 : decode cX12_rivets 24 = .ok (.iaload, 1) := by decide +kernel
theorem dX12_rivets_25 : decode cX12_rivets 25 = .ok (.iconst (-1), 1) := by decide +kernel
theorem dX12_rivets_26 : decode cX12_rivets 26 = .ok (.if_icmp .eq 5, 3) := by decide +kernel
theorem dX12_rivets_29 : decode cX12_rivets 29 = .ok (.iconst 0, 1) := by decide +kernel
theorem dX12_rivets_30 : decode cX12_rivets 30 = .ok (.ireturn, 1) := by decide +kernel
theorem dX12_rivets_31 : decode cX12_rivets 31 = .ok (.aload_n 0, 1) := by decide +kernel
theorem dX12_rivets_32 : decode cX12_rivets 32 = .ok (.getfield 53, 3) := by decide +kernel
theorem dX12_rivets_35 : decode cX12_rivets 35 = .ok (.iload_n 1, 1) := by decide +kernel
theorem dX12_rivets_36 : decode cX12_rivets 36 = .ok (.iload_n 2, 1) := by decide +kernel
theorem dX12_rivets_37 : decode cX12_rivets 37 = .ok (.iastore, 1) := by decide +kernel
theorem dX12_rivets_38 : decode cX12_rivets 38 = .ok (.aload_n 0, 1) := by decide +kernel
theorem dX12_rivets_39 : decode cX12_rivets 39 = .ok (.getfield 53, 3) := by decide +kernel
theorem dX12_rivets_42 : decode cX12_rivets 42 = .ok (.bipush 6, 2) := by decide +kernel
theorem dX12_rivets_44 : decode cX12_rivets 44 = .ok (.iload_n 2, 1) := by decide +kernel
theorem dX12_rivets_45 : decode cX12_rivets 45 = .ok (.iadd, 1) := by decide +kernel
theorem dX12_rivets_46 : decode cX12_rivets 46 = .ok (.iload_n 1, 1) := by decide +kernel
theorem dX12_rivets_47 : decode cX12_rivets 47 = .ok (.iastore, 1) := by decide +kernel
theorem dX12_rivets_48 : decode cX12_rivets 48 = .ok (.iconst 1, 1) := by decide +kernel
theorem dX12_rivets_49 : decode cX12_rivets 49 = .ok (.ireturn, 1) := by decide +kernel
theorem dX12_heats_0 : decode cX12_heats 0 = .ok (.aload_n 0, 1) := by decide +kernel
theorem dX12_heats_1 : decode cX12_heats 1 = .ok (.iload_n 1, 1) := by decide +kernel
theorem dX12_heats_2 : decode cX12_heats 2 = .ok (.invokevirtual 286, 3) := by decide +kernel
theorem dX12_heats_5 : decode cX12_heats 5 = .ok (.ifCond .eq 18, 3) := by decide +kernel
theorem dX12_heats_8 : decode cX12_heats 8 = .ok (.aload_n 0, 1) := by decide +kernel
theorem dX12_heats_9 : decode cX12_heats 9 = .ok (.getfield 322, 3) := by decide +kernel
theorem dX12_heats_12 : decode cX12_heats 12 = .ok (.iload_n 1, 1) := by decide +kernel
theorem dX12_heats_13 : decode cX12_heats 13 = .ok (.invokestatic 107, 3) := by decide +kernel
theorem dX12_heats_16 : decode cX12_heats 16 = .ok (.ifCond .ne 7, 3) := by decide +kernel
theorem dX12_heats_19 : decode cX12_heats 19 = .ok (.iconst 1, 1) := by decide +kernel
theorem dX12_heats_20 : decode cX12_heats 20 = .ok (.goto 4, 3) := by decide +kernel
theorem dX12_heats_23 : decode cX12_heats 23 = .ok (.iconst 0, 1) := by decide +kernel
theorem dX12_heats_24 : decode cX12_heats 24 = .ok (.istore_n 2, 1) := by decide +kernel
theorem dX12_heats_25 : decode cX12_heats 25 = .ok (.aload_n 0, 1) := by decide +kernel
theorem dX12_heats_26 : decode cX12_heats 26 = .ok (.dup, 1) := by decide +kernel
theorem dX12_heats_27 : decode cX12_heats 27 = .ok (.getfield 322, 3) := by decide +kernel
theorem dX12_heats_30 : decode cX12_heats 30 = .ok (.iload_n 2, 1) := by decide +kernel
theorem dX12_heats_31 : decode cX12_heats 31 = .ok (.ifCond .eq 9, 3) := by decide +kernel
theorem dX12_heats_34 : decode cX12_heats 34 = .ok (.iconst 1, 1) := by decide +kernel
theorem dX12_heats_35 : decode cX12_heats 35 = .ok (.iload_n 1, 1) := by decide +kernel
theorem dX12_heats_36 : decode cX12_heats 36 = .ok (.ishl, 1) := by decide +kernel
theorem dX12_heats_37 : decode cX12_heats 37 = .ok (.goto 4, 3) := by decide +kernel
theorem dX12_heats_40 : decode cX12_heats 40 = .ok (.iconst 0, 1) := by decide +kernel
theorem dX12_heats_41 : decode cX12_heats 41 = .ok (.ior, 1) := by decide +kernel
theorem dX12_heats_42 : decode cX12_heats 42 = .ok (.putfield 322, 3) := by decide +kernel
theorem dX12_heats_45 : decode cX12_heats 45 = .ok (.iload_n 2, 1) := by decide +kernel
theorem dX12_heats_46 : decode cX12_heats 46 = .ok (.ireturn, 1) := by decide +kernel
theorem dX12_parts_0 : decode cX12_parts 0 = .ok (.aload_n 0, 1) := by decide +kernel
theorem dX12_parts_1 : decode cX12_parts 1 = .ok (.iload_n 1, 1) := by decide +kernel
theorem dX12_parts_2 : decode cX12_parts 2 = .ok (.invokevirtual 286, 3) := by decide +kernel
theorem dX12_parts_5 : decode cX12_parts 5 = .ok (.ifCond .eq 14, 3) := by decide +kernel
theorem dX12_parts_8 : decode cX12_parts 8 = .ok (.aload_n 0, 1) := by decide +kernel
theorem dX12_parts_9 : decode cX12_parts 9 = .ok (.getfield 322, 3) := by decide +kernel
theorem dX12_parts_12 : decode cX12_parts 12 = .ok (.iload_n 1, 1) := by decide +kernel
theorem dX12_parts_13 : decode cX12_parts 13 = .ok (.invokestatic 107, 3) := by decide +kernel
theorem dX12_parts_16 : decode cX12_parts 16 = .ok (.ifCond .ne 5, 3) := by decide +kernel
theorem dX12_parts_19 : decode cX12_parts 19 = .ok (.iconst 0, 1) := by decide +kernel
theorem dX12_parts_20 : decode cX12_parts 20 = .ok (.ireturn, 1) := by decide +kernel
theorem dX12_parts_21 : decode cX12_parts 21 = .ok (.aload_n 0, 1) := by decide +kernel
theorem dX12_parts_22 : decode cX12_parts 22 = .ok (.getfield 53, 3) := by decide +kernel
theorem dX12_parts_25 : decode cX12_parts 25 = .ok (.bipush 6, 2) := by decide +kernel
theorem dX12_parts_27 : decode cX12_parts 27 = .ok (.aload_n 0, 1) := by decide +kernel
theorem dX12_parts_28 : decode cX12_parts 28 = .ok (.getfield 53, 3) := by decide +kernel
theorem dX12_parts_31 : decode cX12_parts 31 = .ok (.iload_n 1, 1) := by decide +kernel
theorem dX12_parts_32 : decode cX12_parts 32 = .ok (.iaload, 1) := by decide +kernel
theorem dX12_parts_33 : decode cX12_parts 33 = .ok (.iadd, 1) := by decide +kernel
theorem dX12_parts_34 : decode cX12_parts 34 = .ok (.iconst (-1), 1) := by decide +kernel
theorem dX12_parts_35 : decode cX12_parts 35 = .ok (.iastore, 1) := by decide +kernel
theorem dX12_parts_36 : decode cX12_parts 36 = .ok (.aload_n 0, 1) := by decide +kernel
theorem dX12_parts_37 : decode cX12_parts 37 = .ok (.getfield 53, 3) := by decide +kernel
theorem dX12_parts_40 : decode cX12_parts 40 = .ok (.iload_n 1, 1) := by decide +kernel
theorem dX12_parts_41 : decode cX12_parts 41 = .ok (.iconst (-1), 1) := by decide +kernel
theorem dX12_parts_42 : decode cX12_parts 42 = .ok (.iastore, 1) := by decide +kernel
theorem dX12_parts_43 : decode cX12_parts 43 = .ok (.iconst 1, 1) := by decide +kernel
theorem dX12_parts_44 : decode cX12_parts 44 = .ok (.ireturn, 1) := by decide +kernel
theorem dX12_blunts_0 : decode cX12_blunts 0 = .ok (.aload_n 0, 1) := by decide +kernel
theorem dX12_blunts_1 : decode cX12_blunts 1 = .ok (.getfield 47, 3) := by decide +kernel
theorem dX12_blunts_4 : decode cX12_blunts 4 = .ok (.iload_n 1, 1) := by decide +kernel
theorem dX12_blunts_5 : decode cX12_blunts 5 = .ok (.iconst 0, 1) := by decide +kernel
theorem dX12_blunts_6 : decode cX12_blunts 6 = .ok (.aload_n 0, 1) := by decide +kernel
theorem dX12_blunts_7 : decode cX12_blunts 7 = .ok (.getfield 47, 3) := by decide +kernel
theorem dX12_blunts_10 : decode cX12_blunts 10 = .ok (.iload_n 1, 1) := by decide +kernel
theorem dX12_blunts_11 : decode cX12_blunts 11 = .ok (.iaload, 1) := by decide +kernel
theorem dX12_blunts_12 : decode cX12_blunts 12 = .ok (.iconst 1, 1) := by decide +kernel
theorem dX12_blunts_13 : decode cX12_blunts 13 = .ok (.isub, 1) := by decide +kernel
theorem dX12_blunts_14 : decode cX12_blunts 14 = .ok (.invokestatic 176, 3) := by decide +kernel
theorem dX12_blunts_17 : decode cX12_blunts 17 = .ok (.iastore, 1) := by decide +kernel
theorem dX12_blunts_18 : decode cX12_blunts 18 = .ok (.return_, 1) := by decide +kernel
theorem dX12_oils_0 : decode cX12_oils 0 = .ok (.aload_n 0, 1) := by decide +kernel
theorem dX12_oils_1 : decode cX12_oils 1 = .ok (.dup, 1) := by decide +kernel
theorem dX12_oils_2 : decode cX12_oils 2 = .ok (.getfield 325, 3) := by decide +kernel
theorem dX12_oils_5 : decode cX12_oils 5 = .ok (.iconst 1, 1) := by decide +kernel
theorem dX12_oils_6 : decode cX12_oils 6 = .ok (.iload_n 1, 1) := by decide +kernel
theorem dX12_oils_7 : decode cX12_oils 7 = .ok (.ishl, 1) := by decide +kernel
theorem dX12_oils_8 : decode cX12_oils 8 = .ok (.aload_n 0, 1) := by decide +kernel
theorem dX12_oils_9 : decode cX12_oils 9 = .ok (.iload_n 1, 1) := by decide +kernel
theorem dX12_oils_10 : decode cX12_oils 10 = .ok (.invokevirtual 286, 3) := by decide +kernel
theorem dX12_oils_13 : decode cX12_oils 13 = .ok (.ifCond .eq 17, 3) := by decide +kernel
theorem dX12_oils_16 : decode cX12_oils 16 = .ok (.iconst 1, 1) := by decide +kernel
theorem dX12_oils_17 : decode cX12_oils 17 = .ok (.bipush 6, 2) := by decide +kernel
theorem dX12_oils_19 : decode cX12_oils 19 = .ok (.aload_n 0, 1) := by decide +kernel
theorem dX12_oils_20 : decode cX12_oils 20 = .ok (.getfield 53, 3) := by decide +kernel
theorem dX12_oils_23 : decode cX12_oils 23 = .ok (.iload_n 1, 1) := by decide +kernel
theorem dX12_oils_24 : decode cX12_oils 24 = .ok (.iaload, 1) := by decide +kernel
theorem dX12_oils_25 : decode cX12_oils 25 = .ok (.iadd, 1) := by decide +kernel
theorem dX12_oils_26 : decode cX12_oils 26 = .ok (.ishl, 1) := by decide +kernel
theorem dX12_oils_27 : decode cX12_oils 27 = .ok (.goto 4, 3) := by decide +kernel
theorem dX12_oils_30 : decode cX12_oils 30 = .ok (.iconst 0, 1) := by decide +kernel
theorem dX12_oils_31 : decode cX12_oils 31 = .ok (.ior, 1) := by decide +kernel
theorem dX12_oils_32 : decode cX12_oils 32 = .ok (.ior, 1) := by decide +kernel
theorem dX12_oils_33 : decode cX12_oils 33 = .ok (.putfield 325, 3) := by decide +kernel
theorem dX12_oils_36 : decode cX12_oils 36 = .ok (.iconst 1, 1) := by decide +kernel
theorem dX12_oils_37 : decode cX12_oils 37 = .ok (.ireturn, 1) := by decide +kernel
theorem tf_12_313 : tFld TB0 12 313 = some (12, 33) := rfl
theorem tf_12_316 : tFld TB0 12 316 = some (12, 34) := rfl
theorem tf_12_319 : tFld TB0 12 319 = some (12, 35) := rfl
theorem tf_12_322 : tFld TB0 12 322 = some (12, 36) := rfl
theorem tf_12_325 : tFld TB0 12 325 = some (12, 37) := rfl
theorem tf_12_328 : tFld TB0 12 328 = some (12, 38) := rfl
theorem orZ_0 {x : Int} (h : 0 ≤ x) : orZ x 0 = x := by
  unfold orZ
  rw [show (0 : Int).toNat = 0 from rfl, Nat.or_zero]; omega
theorem rB_m {h : mH} {m : Nat} {g : Int → Int} (H : rB h m g) {k v : Int} (hk : (27 ≤ k ∧ k < 33) ∨ (57 ≤ k ∧ k < 63)) : rB h m (setG g k v) := by
  obtain ⟨w, ⟨a1, a2⟩, ⟨b1, b2⟩, ⟨c1, c2⟩, ⟨d1, d2⟩, k1, k2⟩ := H
  have wn := wB_n w
  refine ⟨wfB_m w hk, ⟨by rw [nd_set (by omega)]; exact a1, by rw [nu_set (by omega)]; exact a2⟩, ⟨fun i x y => ?_, fun i x y => ?_⟩, ⟨fun i x y => ?_, fun i x y => ?_⟩, ⟨fun i x y => ?_, fun i x y => ?_⟩, fun i x y => ?_, fun i x y => ?_⟩
  · rw [nd_set (by omega)] at y; rw [dl_set, if_neg (by omega)]; exact b1 i x y
  · rw [nu_set (by omega)] at y; rw [ul_set, if_neg (by omega)]; exact b2 i x y
  · rw [nd_set (by omega)] at y; rw [ds_set, if_neg (by omega)]; exact c1 i x y
  · rw [nu_set (by omega)] at y; rw [us_set, if_neg (by omega)]; exact c2 i x y
  · rw [nd_set (by omega)] at y; rw [de_set, if_neg (by omega)]; exact d1 i x y
  · rw [nu_set (by omega)] at y; rw [ue_set, if_neg (by omega)]; exact d2 i x y
  · rw [nd_set (by omega)] at y; rw [dh_set, if_neg (by omega)]; exact k1 i x y
  · rw [nu_set (by omega)] at y; rw [uh_set, if_neg (by omega)]; exact k2 i x y
theorem rC_m {h : mH} {m : Nat} {g : Int → Int} (H : rC h m g) {k v : Int} (hk : 3 ≤ k ∧ k < 63) : rC h m (setG g k v) := ⟨wfC_m H.1 hk, by rw [nc_set (by omega)]; exact H.2.1, H.2.2.1, fun i a c => by rw [nc_set (by omega)] at c; rw [ha_set, pr_set, dy_set, if_neg (by omega), if_neg (by omega), if_neg (by omega)]; exact H.2.2.2 i a c⟩
theorem rM_g {h : mH} {m : Nat} {g : Int → Int} (w : wfM g) (hd : ∀ i : Int, 0 ≤ i → i < 6 → rI h (m + 15) i = dm g i) (hu : ∀ i : Int, 0 ≤ i → i < 6 → rI h (m + 15) (6 + i) = um g i) : rM h m g := ⟨w, fun i a c => ⟨hd i a c, hu i a c⟩⟩
theorem rQ_1 {h : mH} {m : Nat} {q : Int → Int} {n : Int} (H : rQ h m q n) (hn : n < 1000) : rQ h m q (n + 1) := ⟨wfQ_1 H.1 hn, H.2⟩
theorem rB_fde {h h1 : mH} {m : Nat} {g : Int → Int} (H : rB h m g) {d v : Int} (f : frm (fun a i => a = m + 13 ∧ i = (d).toNat) h h1) (e : rI h1 (m + 13) d = v) (h0 : 0 ≤ d) (h1' : d < nd g) (v0 : 0 ≤ v) (v1 : v ≤ 20) : rB h1 m (setG g (15 + d) v) := by
  have wn0 := rB_n H
  refine ⟨wfB_de (rB_w H) h0 h1' v0 v1, ⟨?_, ?_⟩, ⟨?_, ?_⟩, ⟨?_, ?_⟩, ⟨?_, ?_⟩, ?_, ?_⟩
  · rw [nd_set (by omega), frm_r f (by omega)]; exact rB_nd H
  · rw [nu_set (by omega), frm_r f (by omega)]; exact rB_nu H
  · intro i a c
    rw [nd_set (by omega)] at c
    rw [dl_set, if_neg (by omega), frm_r f (by omega)]; exact rB_dl H a c
  · intro i a c
    rw [nu_set (by omega)] at c
    rw [ul_set, if_neg (by omega), frm_r f (by omega)]; exact rB_ul H a c
  · intro i a c
    rw [nd_set (by omega)] at c
    rw [ds_set, if_neg (by omega), frm_r f (by omega)]; exact rB_ds H a c
  · intro i a c
    rw [nu_set (by omega)] at c
    rw [us_set, if_neg (by omega), frm_r f (by omega)]; exact rB_us H a c
  · intro i a c
    rw [nd_set (by omega)] at c
    rw [de_set]
    by_cases q : i = d
    · subst q; rw [if_pos rfl]; exact e
    · rw [if_neg (by omega), frm_r f (by omega)]; exact rB_de H a c
  · intro i a c
    rw [nu_set (by omega)] at c
    rw [ue_set, if_neg (by omega), frm_r f (by omega)]; exact rB_ue H a c
  · intro i a c
    rw [nd_set (by omega)] at c
    rw [dh_set, if_neg (by omega), frm_r f (by omega)]; exact rB_dh H a c
  · intro i a c
    rw [nu_set (by omega)] at c
    rw [uh_set, if_neg (by omega), frm_r f (by omega)]; exact rB_uh H a c
theorem rB_fue {h h1 : mH} {m : Nat} {g : Int → Int} (H : rB h m g) {d v : Int} (f : frm (fun a i => a = m + 13 ∧ i = ((6 + d)).toNat) h h1) (e : rI h1 (m + 13) (6 + d) = v) (h0 : 0 ≤ d) (h1' : d < nu g) (v0 : 0 ≤ v) (v1 : v ≤ 20) : rB h1 m (setG g (45 + d) v) := by
  have wn0 := rB_n H
  refine ⟨wfB_ue (rB_w H) h0 h1' v0 v1, ⟨?_, ?_⟩, ⟨?_, ?_⟩, ⟨?_, ?_⟩, ⟨?_, ?_⟩, ?_, ?_⟩
  · rw [nd_set (by omega), frm_r f (by omega)]; exact rB_nd H
  · rw [nu_set (by omega), frm_r f (by omega)]; exact rB_nu H
  · intro i a c
    rw [nd_set (by omega)] at c
    rw [dl_set, if_neg (by omega), frm_r f (by omega)]; exact rB_dl H a c
  · intro i a c
    rw [nu_set (by omega)] at c
    rw [ul_set, if_neg (by omega), frm_r f (by omega)]; exact rB_ul H a c
  · intro i a c
    rw [nd_set (by omega)] at c
    rw [ds_set, if_neg (by omega), frm_r f (by omega)]; exact rB_ds H a c
  · intro i a c
    rw [nu_set (by omega)] at c
    rw [us_set, if_neg (by omega), frm_r f (by omega)]; exact rB_us H a c
  · intro i a c
    rw [nd_set (by omega)] at c
    rw [de_set, if_neg (by omega), frm_r f (by omega)]; exact rB_de H a c
  · intro i a c
    rw [nu_set (by omega)] at c
    rw [ue_set]
    by_cases q : i = d
    · subst q; rw [if_pos rfl]; exact e
    · rw [if_neg (by omega), frm_r f (by omega)]; exact rB_ue H a c
  · intro i a c
    rw [nd_set (by omega)] at c
    rw [dh_set, if_neg (by omega), frm_r f (by omega)]; exact rB_dh H a c
  · intro i a c
    rw [nu_set (by omega)] at c
    rw [uh_set, if_neg (by omega), frm_r f (by omega)]; exact rB_uh H a c
set_option maxHeartbeats 400000 in
theorem zp_X12_begin {ad : mA} {dd : Nat} {h : mH} {Q : mQ} {m : Nat}  (hk : rk h m)    (kq : ∀ h1, frm (fun a i => a = m ∧ 33 ≤ i ∧ i ≤ 38) h h1 → (rQ h1 m (fun _ => 0) 0) → Q none h1) : mCal TB0 ad (dd + 1) M_X12_begin [.ref m] h 0 0 Q := by
  refine ⟨Nat.le_of_ble_eq_true rfl, ?_⟩
  show mEv TB0 ad M_X12_begin (dd + 1) (0, 0) (mCal TB0 ad (dd + 0)) (fun v h' z => z.1 = 0 ∧ Q v h') 0 [some (.ref m)] [] h (0, 0)
  have FR0 : frm (fun a i => a = m ∧ 33 ≤ i ∧ i ≤ 38) h h := frm_0 h
  refine e_aload_n dX12_begin_0 rfl ?_
  refine z_iconst (0) dX12_begin_1 rfl ?_
  refine z_put dX12_begin_2 tf_12_313 (rk_s hk) rfl (Or.inl rfl) (fun h1 e2 => ?_)
  have f3 := frm_1 e2
  have k4 := rk_q (frm_s f3) hk
  have FR5 := frm_t FR0 (frm_m (S' := (fun a i => a = m ∧ 33 ≤ i ∧ i ≤ 38)) f3 (fun a k q => by omega))
  refine e_aload_n dX12_begin_5 rfl ?_
  refine z_iconst (0) dX12_begin_6 rfl ?_
  refine z_put dX12_begin_7 tf_12_316 (rk_s k4) rfl (Or.inl rfl) (fun h6 e7 => ?_)
  have f8 := frm_1 e7
  have k9 := rk_q (frm_s f8) k4
  have FR10 := frm_t FR5 (frm_m (S' := (fun a i => a = m ∧ 33 ≤ i ∧ i ≤ 38)) f8 (fun a k q => by omega))
  refine e_aload_n dX12_begin_10 rfl ?_
  refine z_iconst (0) dX12_begin_11 rfl ?_
  refine z_put dX12_begin_12 tf_12_319 (rk_s k9) rfl (Or.inl rfl) (fun h11 e12 => ?_)
  have f13 := frm_1 e12
  have k14 := rk_q (frm_s f13) k9
  have FR15 := frm_t FR10 (frm_m (S' := (fun a i => a = m ∧ 33 ≤ i ∧ i ≤ 38)) f13 (fun a k q => by omega))
  refine e_aload_n dX12_begin_15 rfl ?_
  refine z_iconst (0) dX12_begin_16 rfl ?_
  refine z_put dX12_begin_17 tf_12_322 (rk_s k14) rfl (Or.inl rfl) (fun h16 e17 => ?_)
  have f18 := frm_1 e17
  have k19 := rk_q (frm_s f18) k14
  have FR20 := frm_t FR15 (frm_m (S' := (fun a i => a = m ∧ 33 ≤ i ∧ i ≤ 38)) f18 (fun a k q => by omega))
  refine e_aload_n dX12_begin_20 rfl ?_
  refine z_iconst (0) dX12_begin_21 rfl ?_
  refine z_put dX12_begin_22 tf_12_325 (rk_s k19) rfl (Or.inl rfl) (fun h21 e22 => ?_)
  have f23 := frm_1 e22
  have k24 := rk_q (frm_s f23) k19
  have FR25 := frm_t FR20 (frm_m (S' := (fun a i => a = m ∧ 33 ≤ i ∧ i ≤ 38)) f23 (fun a k q => by omega))
  refine e_aload_n dX12_begin_25 rfl ?_
  refine z_iconst (0) dX12_begin_26 rfl ?_
  refine z_put dX12_begin_27 tf_12_328 (rk_s k24) rfl (Or.inl rfl) (fun h26 e27 => ?_)
  have f28 := frm_1 e27
  have k29 := rk_q (frm_s f28) k24
  have FR30 := frm_t FR25 (frm_m (S' := (fun a i => a = m ∧ 33 ≤ i ∧ i ≤ 38)) f28 (fun a k q => by omega))
  refine e_vret dX12_begin_30 rfl ⟨rfl, ?_⟩
  exact kq _ FR30 ⟨wfQ_0, (show rI h26 m 33 = 0 from (((frm_r f28 (by omega)).trans ((frm_r f23 (by omega)).trans ((frm_r f18 (by omega)).trans ((frm_r f13 (by omega)).trans (frm_r f8 (by omega)))))).trans (rI_eq e2 ⟨by omega, by omega⟩))), (show rI h26 m 34 = 0 from (((frm_r f28 (by omega)).trans ((frm_r f23 (by omega)).trans ((frm_r f18 (by omega)).trans (frm_r f13 (by omega))))).trans (rI_eq e7 ⟨by omega, by omega⟩))), (show rI h26 m 35 = 0 from (((frm_r f28 (by omega)).trans ((frm_r f23 (by omega)).trans (frm_r f18 (by omega)))).trans (rI_eq e12 ⟨by omega, by omega⟩))), (show rI h26 m 36 = 0 from (((frm_r f28 (by omega)).trans (frm_r f23 (by omega))).trans (rI_eq e17 ⟨by omega, by omega⟩))), (show rI h26 m 37 = 0 from ((frm_r f28 (by omega)).trans (rI_eq e22 ⟨by omega, by omega⟩))), (show rI h26 m 38 = 0 from (rI_eq e27 ⟨by omega, by omega⟩))⟩
set_option maxHeartbeats 400000 in
theorem zp_X12_blunts {ad : mA} {dd : Nat} {h : mH} {Q : mQ} {m : Nat}  (hk : rk h m)  (k : Int) (k_r : -2147483648 ≤ k ∧ k < 2147483648) (p1 : 0 ≤ k ∧ k < 12) (kq : ∀ h1, frm (fun a i => a = m + 13 ∧ i = k.toNat) h h1 → (-2147483648 < rI h (m + 13) k → rI h1 (m + 13) k = max 0 (rI h (m + 13) k - 1)) → Q none h1) : mCal TB0 ad (dd + 2) M_X12_blunts [.ref m, .int (zI k)] h 0 0 Q := by
  refine ⟨Nat.le_of_ble_eq_true rfl, ?_⟩
  show mEv TB0 ad M_X12_blunts (dd + 2) (0, 0) (mCal TB0 ad (dd + 1)) (fun v h' z => z.1 = 0 ∧ Q v h') 0 [some (.ref m), some (.int (zI k))] [] h (0, 0)
  have FR0 : frm (fun a i => a = m + 13 ∧ i = k.toNat) h h := frm_0 h
  refine e_aload_n dX12_blunts_0 rfl ?_
  refine e_get (.ref (m + 13)) dX12_blunts_1 tf_12_47 (rk_s hk) (congrArg va_rf (rk_r13 hk)) ?_
  refine e_iload_n dX12_blunts_4 rfl ?_
  refine z_iconst (0) dX12_blunts_5 rfl ?_
  refine e_aload_n dX12_blunts_6 rfl ?_
  refine e_get (.ref (m + 13)) dX12_blunts_7 tf_12_47 (rk_s hk) (congrArg va_rf (rk_r13 hk)) ?_
  refine e_iload_n dX12_blunts_10 rfl ?_
  refine z_ild (rI h (m + 13) k) dX12_blunts_11 (rk_a13 hk) (by decide) (by omega) (by omega) rfl ?_
  have y1 := rI_i h (m + 13) k
  refine z_iconst (1) dX12_blunts_12 rfl ?_
  refine z_isub dX12_blunts_13 ?_
  rw [← zI_toInt (zI ((rI h (m + 13) k) - 1))]
  have wi := in_of (zI ((rI h (m + 13) k) - 1))
  have wt : -2147483648 < rI h (m + 13) k → (Int32.toInt (zI ((rI h (m + 13) k) - 1))) = ((rI h (m + 13) k) - 1) := fun z => toInt_zI ⟨by omega, by omega⟩
  refine e_callS [.int _, .int _] dX12_blunts_14 tm_12_176 rfl (Nat.le_of_ble_eq_true rfl) (Nat.le_refl _) (Nat.le_refl _) rfl (zp_X12_greater 0 ⟨by omega, by omega⟩ (Int32.toInt (zI ((rI h (m + 13) k) - 1))) ⟨by omega, by omega⟩ ?_)
  refine z_ist dX12_blunts_17 (rk_a13 hk) (by decide) (by omega) (by omega) (fun h2 e3 => ?_)
  have f4 := frm_1 e3
  have k5 := rk_q (frm_s f4) hk
  have FR6 := frm_t FR0 (frm_m (S' := (fun a i => a = m + 13 ∧ i = k.toNat)) f4 (fun a k q => by omega))
  refine e_vret dX12_blunts_18 rfl ⟨rfl, ?_⟩
  exact kq _ FR6 (fun z => by rw [← wt z]; exact (rI_eq e3 ⟨by omega, by omega⟩))
set_option maxHeartbeats 400000 in
theorem zp_X12_rivets {ad : mA} {dd : Nat} {h : mH} {Q : mQ} {m : Nat} {g : Int → Int} (hk : rk h m) (HB : rB h m g) (HM : rM h m g) (HC : rC h m g)  (d : Int) (d_r : -2147483648 ≤ d ∧ d < 2147483648) (u : Int) (u_r : -2147483648 ≤ u ∧ u < 2147483648) (pd : 0 ≤ d ∧ d < nd g) (kq : ∀ h1, frm (fun a i => a = m + 15) h h1 → (rB h1 m (rvG g d u)) → (rM h1 m (rvG g d u)) → (rC h1 m (rvG g d u)) → Q (some (.int (zI (bZ (cRiv g d u))))) h1) : mCal TB0 ad (dd + 3) M_X12_rivets [.ref m, .int (zI d), .int (zI u)] h 0 0 Q := by
  refine ⟨Nat.le_of_ble_eq_true rfl, ?_⟩
  show mEv TB0 ad M_X12_rivets (dd + 3) (0, 0) (mCal TB0 ad (dd + 2)) (fun v h' z => z.1 = 0 ∧ Q v h') 0 [some (.ref m), some (.int (zI d)), some (.int (zI u))] [] h (0, 0)
  have FR0 : frm (fun a i => a = m + 15) h h := frm_0 h
  have w1 := rB_n HB
  have w2 := rB_nd HB
  have w3 := rB_nu HB
  refine e_aload_n dX12_rivets_0 rfl ?_
  refine e_iload_n dX12_rivets_1 rfl ?_
  refine e_callV [.int _] dX12_rivets_2 tm_12_298 rfl (Nat.le_of_ble_eq_true rfl) (rk_s hk) (Nat.le_of_ble_eq_true rfl) (Nat.le_refl _) (Nat.le_refl _) rfl (zp_X12_isUp hk HB u ⟨by omega, by omega⟩ ?_)
  refine z_ifb_eq 29 dX12_rivets_5 rfl (fun c1 => ?_) (fun c1 => ?_)
  · skip
    refine z_iconst (0) dX12_rivets_29 rfl ?_
    refine z_bret dX12_rivets_30 rfl (Or.inl rfl) ⟨rfl, ?_⟩
    have C : ¬ cRiv g d u := by rintro ⟨q1, q2, q3⟩; omega
    have eG : rvG g d u = g := by unfold rvG; rw [if_neg C]
    refine z_q0 (kq _ FR0 ?_ ?_ ?_) C <;> rw [eG] <;> assumption
  · skip
    refine e_aload_n dX12_rivets_8 rfl ?_
    refine e_iload_n dX12_rivets_9 rfl ?_
    refine e_callV [.int _] dX12_rivets_10 tm_12_286 rfl (Nat.le_of_ble_eq_true rfl) (rk_s hk) (Nat.le_of_ble_eq_true rfl) (Nat.le_refl _) (Nat.le_refl _) rfl (zp_X12_isPaired hk HM d ⟨by omega, by omega⟩ (by omega) (by omega) ?_)
    have y2 := wM_d (rM_w HM) (show 0 ≤ d by omega) (by omega)
    refine z_ifb_ne 29 dX12_rivets_13 rfl (fun c3 => ?_) (fun c3 => ?_)
    · skip
      refine z_iconst (0) dX12_rivets_29 rfl ?_
      refine z_bret dX12_rivets_30 rfl (Or.inl rfl) ⟨rfl, ?_⟩
      have C : ¬ cRiv g d u := by rintro ⟨q1, q2, q3⟩; omega
      have eG : rvG g d u = g := by unfold rvG; rw [if_neg C]
      refine z_q0 (kq _ FR0 ?_ ?_ ?_) C <;> rw [eG] <;> assumption
    · skip
      refine e_aload_n dX12_rivets_16 rfl ?_
      refine e_get (.ref (m + 15)) dX12_rivets_17 tf_12_53 (rk_s hk) (congrArg va_rf (rk_r15 hk)) ?_
      refine z_bipush (6) dX12_rivets_20 rfl ?_
      refine e_iload_n dX12_rivets_22 rfl ?_
      refine z_iadd dX12_rivets_23 ?_
      refine z_ild (um g u) dX12_rivets_24 (rk_a15 hk) (by decide) (by omega) (by omega) (rM_u HM (by omega) (by omega)) ?_
      have y4 := wM_u (rM_w HM) (show 0 ≤ u by omega) (by omega)
      refine z_iconst (-1) dX12_rivets_25 rfl ?_
      refine z_icmp_eq 31 dX12_rivets_26 rfl ⟨by omega, by omega⟩ ⟨by omega, by omega⟩ (fun c5 => ?_) (fun c5 => ?_)
      · skip
        refine e_aload_n dX12_rivets_31 rfl ?_
        refine e_get (.ref (m + 15)) dX12_rivets_32 tf_12_53 (rk_s hk) (congrArg va_rf (rk_r15 hk)) ?_
        refine e_iload_n dX12_rivets_35 rfl ?_
        refine e_iload_n dX12_rivets_36 rfl ?_
        refine z_ist dX12_rivets_37 (rk_a15 hk) (by decide) (by omega) (by omega) (fun h6 e7 => ?_)
        have f8 := frm_1 e7
        have k9 := rk_q (frm_s f8) hk
        have H10 := rB_c f8 (fun a k q => by omega) HB
        have H11 := rC_c f8 (fun a k q => by omega) HC
        have FR12 := frm_t FR0 (frm_m (S' := (fun a i => a = m + 15)) f8 (fun a k q => by omega))
        refine e_aload_n dX12_rivets_38 rfl ?_
        refine e_get (.ref (m + 15)) dX12_rivets_39 tf_12_53 (rk_s k9) (congrArg va_rf (rk_r15 k9)) ?_
        refine z_bipush (6) dX12_rivets_42 rfl ?_
        refine e_iload_n dX12_rivets_44 rfl ?_
        refine z_iadd dX12_rivets_45 ?_
        refine e_iload_n dX12_rivets_46 rfl ?_
        refine z_ist dX12_rivets_47 (rk_a15 k9) (by decide) (by omega) (by omega) (fun h13 e14 => ?_)
        have f15 := frm_1 e14
        have k16 := rk_q (frm_s f15) k9
        have H17 := rB_c f15 (fun a k q => by omega) H10
        have H18 := rC_c f15 (fun a k q => by omega) H11
        have FR19 := frm_t FR12 (frm_m (S' := (fun a i => a = m + 15)) f15 (fun a k q => by omega))
        refine z_iconst (1) dX12_rivets_48 rfl ?_
        refine z_bret dX12_rivets_49 rfl (Or.inr rfl) ⟨rfl, ?_⟩
        have C : cRiv g d u := ⟨by omega, by omega, by omega⟩
        have eG : rvG g d u = jnG g d u := by unfold rvG; rw [if_pos C]
        refine z_q1 (kq _ FR19 ?_ ?_ ?_) C
        · rw [eG]; exact rB_m (rB_m H17 (by omega)) (by omega)
        · rw [eG]
          refine rM_g (wfM_jn (rB_w HB) (rM_w HM) C) (fun i a c => ?_) (fun i a c => ?_)
          · unfold jnG
            rw [dm_set, dm_set, if_neg (show ¬ 27 + i = 57 + u by omega)]
            by_cases z : i = d
            · subst z; rw [if_pos rfl]; exact ((frm_r f15 (by omega)).trans (rI_eq e7 ⟨by omega, by omega⟩))
            · rw [if_neg (by omega)]; exact (((frm_r f15 (by omega)).trans (frm_r f8 (by omega)))).trans (rM_d HM a c)
          · unfold jnG
            rw [um_set, um_set]
            by_cases z : i = u
            · subst z; rw [if_pos rfl]; exact (rI_eq e14 ⟨by omega, by omega⟩)
            · rw [if_neg (by omega), if_neg (by omega)]; exact (((frm_r f15 (by omega)).trans (frm_r f8 (by omega)))).trans (rM_u HM a c)
        · rw [eG]; exact rC_m (rC_m H18 (by omega)) (by omega)
      · skip
        refine z_iconst (0) dX12_rivets_29 rfl ?_
        refine z_bret dX12_rivets_30 rfl (Or.inl rfl) ⟨rfl, ?_⟩
        have C : ¬ cRiv g d u := by rintro ⟨q1, q2, q3⟩; omega
        have eG : rvG g d u = g := by unfold rvG; rw [if_neg C]
        refine z_q0 (kq _ FR0 ?_ ?_ ?_) C <;> rw [eG] <;> assumption
set_option maxHeartbeats 400000 in
theorem zp_X12_parts {ad : mA} {dd : Nat} {h : mH} {Q : mQ} {m : Nat} {g q : Int → Int} {n : Int} (hk : rk h m) (HB : rB h m g) (HM : rM h m g) (HC : rC h m g) (HQ : rQ h m q n)  (d : Int) (d_r : -2147483648 ≤ d ∧ d < 2147483648) (pd : 0 ≤ d ∧ d < nd g) (kq : ∀ h1, frm (fun a i => a = m + 15) h h1 → (rB h1 m (paG g q d)) → (rM h1 m (paG g q d)) → (rC h1 m (paG g q d)) → Q (some (.int (zI (bZ (cPar g q d))))) h1) : mCal TB0 ad (dd + 2) M_X12_parts [.ref m, .int (zI d)] h 0 0 Q := by
  refine ⟨Nat.le_of_ble_eq_true rfl, ?_⟩
  show mEv TB0 ad M_X12_parts (dd + 2) (0, 0) (mCal TB0 ad (dd + 1)) (fun v h' z => z.1 = 0 ∧ Q v h') 0 [some (.ref m), some (.int (zI d))] [] h (0, 0)
  have FR0 : frm (fun a i => a = m + 15) h h := frm_0 h
  have w1 := rB_n HB
  have w2 := rB_nd HB
  have w3 := rB_nu HB
  have wq := wfQ_e HQ.1
  refine e_aload_n dX12_parts_0 rfl ?_
  refine e_iload_n dX12_parts_1 rfl ?_
  refine e_callV [.int _] dX12_parts_2 tm_12_286 rfl (Nat.le_of_ble_eq_true rfl) (rk_s hk) (Nat.le_of_ble_eq_true rfl) (Nat.le_refl _) (Nat.le_refl _) rfl (zp_X12_isPaired hk HM d ⟨by omega, by omega⟩ (by omega) (by omega) ?_)
  have y1 := wM_d (rM_w HM) (show 0 ≤ d by omega) (by omega)
  refine z_ifb_eq 19 dX12_parts_5 rfl (fun c2 => ?_) (fun c2 => ?_)
  · skip
    refine z_iconst (0) dX12_parts_19 rfl ?_
    refine z_bret dX12_parts_20 rfl (Or.inl rfl) ⟨rfl, ?_⟩
    have C : ¬ cPar g q d := by rintro ⟨⟨q1, q2⟩, q3⟩; first | exact absurd q2 (by assumption) | exact absurd q3 (by assumption)
    have eG : paG g q d = g := by unfold paG; rw [if_neg C]
    refine z_q0 (kq _ FR0 ?_ ?_ ?_) C <;> rw [eG] <;> assumption
  · skip
    refine e_aload_n dX12_parts_8 rfl ?_
    refine z_get (q 3) dX12_parts_9 tf_12_322 (rk_s hk) (Or.inl rfl) HQ.2.2.2.2.1 ?_
    have y3 := wfQ_e HQ.1
    refine e_iload_n dX12_parts_12 rfl ?_
    refine e_callS [.int _, .int _] dX12_parts_13 tm_12_107 rfl (Nat.le_of_ble_eq_true rfl) (Nat.le_refl _) (Nat.le_refl _) rfl (zp_X12_has (q 3) ⟨by omega, by omega⟩ d ⟨by omega, by omega⟩ (by omega) (by omega) (by omega) ?_)
    refine z_ifb_ne 21 dX12_parts_16 rfl (fun c4 => ?_) (fun c4 => ?_)
    · skip
      refine e_aload_n dX12_parts_21 rfl ?_
      refine e_get (.ref (m + 15)) dX12_parts_22 tf_12_53 (rk_s hk) (congrArg va_rf (rk_r15 hk)) ?_
      refine z_bipush (6) dX12_parts_25 rfl ?_
      refine e_aload_n dX12_parts_27 rfl ?_
      refine e_get (.ref (m + 15)) dX12_parts_28 tf_12_53 (rk_s hk) (congrArg va_rf (rk_r15 hk)) ?_
      refine e_iload_n dX12_parts_31 rfl ?_
      refine z_ild (dm g d) dX12_parts_32 (rk_a15 hk) (by decide) (by omega) (by omega) (rM_d HM (by omega) (by omega)) ?_
      have y5 := wM_d (rM_w HM) (show 0 ≤ d by omega) (by omega)
      refine z_iadd dX12_parts_33 ?_
      refine z_iconst (-1) dX12_parts_34 rfl ?_
      refine z_ist dX12_parts_35 (rk_a15 hk) (by decide) (by omega) (by omega) (fun h6 e7 => ?_)
      have f8 := frm_1 e7
      have k9 := rk_q (frm_s f8) hk
      have H10 := rB_c f8 (fun a k q => by omega) HB
      have H11 := rC_c f8 (fun a k q => by omega) HC
      have H12 := rQ_c f8 (fun a k q1 q2 q3 => by omega) HQ
      have FR13 := frm_t FR0 (frm_m (S' := (fun a i => a = m + 15)) f8 (fun a k q => by omega))
      refine e_aload_n dX12_parts_36 rfl ?_
      refine e_get (.ref (m + 15)) dX12_parts_37 tf_12_53 (rk_s k9) (congrArg va_rf (rk_r15 k9)) ?_
      refine e_iload_n dX12_parts_40 rfl ?_
      refine z_iconst (-1) dX12_parts_41 rfl ?_
      refine z_ist dX12_parts_42 (rk_a15 k9) (by decide) (by omega) (by omega) (fun h14 e15 => ?_)
      have f16 := frm_1 e15
      have k17 := rk_q (frm_s f16) k9
      have H18 := rB_c f16 (fun a k q => by omega) H10
      have H19 := rC_c f16 (fun a k q => by omega) H11
      have H20 := rQ_c f16 (fun a k q1 q2 q3 => by omega) H12
      have FR21 := frm_t FR13 (frm_m (S' := (fun a i => a = m + 15)) f16 (fun a k q => by omega))
      refine z_iconst (1) dX12_parts_43 rfl ?_
      refine z_bret dX12_parts_44 rfl (Or.inr rfl) ⟨rfl, ?_⟩
      have C : cPar g q d := ⟨⟨by omega, by omega⟩, by assumption⟩
      have eG : paG g q d = ptG g d := by unfold paG; rw [if_pos C]
      refine z_q1 (kq _ FR21 ?_ ?_ ?_) C
      · rw [eG]; exact rB_m (rB_m H18 (by omega)) (by omega)
      · rw [eG]
        refine rM_g (wfM_pt (rB_w HB) (rM_w HM) C.1) (fun i a c => ?_) (fun i a c => ?_)
        · unfold ptG
          rw [dm_set, dm_set]
          by_cases z : i = d
          · subst z; rw [if_pos rfl]; exact (rI_eq e15 ⟨by omega, by omega⟩)
          · rw [if_neg (by omega), if_neg (by omega)]; exact (((frm_r f16 (by omega)).trans (frm_r f8 (by omega)))).trans (rM_d HM a c)
        · unfold ptG
          rw [um_set, um_set, if_neg (show ¬ 57 + i = 27 + d by omega)]
          by_cases z : i = dm g d
          · subst z; rw [if_pos rfl]; exact ((frm_r f16 (by omega)).trans (rI_eq e7 ⟨by omega, by omega⟩))
          · rw [if_neg (by omega)]; exact (((frm_r f16 (by omega)).trans (frm_r f8 (by omega)))).trans (rM_u HM a c)
      · rw [eG]; exact rC_m (rC_m H19 (by omega)) (by omega)
    · skip
      refine z_iconst (0) dX12_parts_19 rfl ?_
      refine z_bret dX12_parts_20 rfl (Or.inl rfl) ⟨rfl, ?_⟩
      have C : ¬ cPar g q d := by rintro ⟨⟨q1, q2⟩, q3⟩; first | exact absurd q2 (by assumption) | exact absurd q3 (by assumption)
      have eG : paG g q d = g := by unfold paG; rw [if_neg C]
      refine z_q0 (kq _ FR0 ?_ ?_ ?_) C <;> rw [eG] <;> assumption
set_option maxHeartbeats 400000 in
theorem zp_X12_heats {ad : mA} {dd : Nat} {h : mH} {Q : mQ} {m : Nat} {g q : Int → Int} {n : Int} (hk : rk h m) (HB : rB h m g) (HM : rM h m g) (HQ : rQ h m q n)  (d : Int) (d_r : -2147483648 ≤ d ∧ d < 2147483648) (pd : 0 ≤ d ∧ d < nd g) (pn : n < 1000) (kq : ∀ h1, frm (fun a i => a = m ∧ i = 36) h h1 → (rQ h1 m (heQ g q d) (n + 1)) → Q (some (.int (zI (bZ (cHea g q d))))) h1) : mCal TB0 ad (dd + 2) M_X12_heats [.ref m, .int (zI d)] h 0 0 Q := by
  refine ⟨Nat.le_of_ble_eq_true rfl, ?_⟩
  show mEv TB0 ad M_X12_heats (dd + 2) (0, 0) (mCal TB0 ad (dd + 1)) (fun v h' z => z.1 = 0 ∧ Q v h') 0 [some (.ref m), some (.int (zI d)), none] [] h (0, 0)
  have FR0 : frm (fun a i => a = m ∧ i = 36) h h := frm_0 h
  have w1 := rB_n HB
  have w2 := rB_nd HB
  have w3 := rB_nu HB
  have wq := wfQ_e HQ.1
  refine e_aload_n dX12_heats_0 rfl ?_
  refine e_iload_n dX12_heats_1 rfl ?_
  refine e_callV [.int _] dX12_heats_2 tm_12_286 rfl (Nat.le_of_ble_eq_true rfl) (rk_s hk) (Nat.le_of_ble_eq_true rfl) (Nat.le_refl _) (Nat.le_refl _) rfl (zp_X12_isPaired hk HM d ⟨by omega, by omega⟩ (by omega) (by omega) ?_)
  have y1 := wM_d (rM_w HM) (show 0 ≤ d by omega) (by omega)
  refine z_ifb_eq 23 dX12_heats_5 rfl (fun c2 => ?_) (fun c2 => ?_)
  · skip
    refine z_iconst (0) dX12_heats_23 rfl ?_
    refine e_istore_n (L' := [_, _, _]) dX12_heats_24 (Nat.le_of_ble_eq_true rfl) rfl ?_
    refine e_aload_n dX12_heats_25 rfl ?_
    refine e_dup dX12_heats_26 rfl ?_
    refine z_get (q 3) dX12_heats_27 tf_12_322 (rk_s hk) (Or.inl rfl) HQ.2.2.2.2.1 ?_
    have y3 := wfQ_e HQ.1
    refine e_iload_n dX12_heats_30 rfl ?_
    refine z_if_eq 40 dX12_heats_31 rfl ⟨by omega, by omega⟩ (fun c4 => ?_) (fun c4 => ?_)
    · skip
      refine z_iconst (0) dX12_heats_40 rfl ?_
      refine z_ior dX12_heats_41 (by omega) (by omega) (by omega) (by omega) ?_
      have y5 := orZ_b (q 3) 0
      refine z_put dX12_heats_42 tf_12_322 (rk_s hk) rfl (Or.inl rfl) (fun h6 e7 => ?_)
      have f8 := frm_1 e7
      have k9 := rk_q (frm_s f8) hk
      have H10 := rB_c f8 (fun a k q => by omega) HB
      have H11 := rM_c f8 (fun a k q => by omega) HM
      have FR12 := frm_t FR0 (frm_m (S' := (fun a i => a = m ∧ i = 36)) f8 (fun a k q => by omega))
      refine e_iload_n dX12_heats_45 rfl ?_
      refine z_bret dX12_heats_46 rfl (Or.inl rfl) ⟨rfl, ?_⟩
      have C : ¬ cHea g q d := by rintro ⟨⟨q1, q2⟩, q3⟩; first | exact absurd q2 (by assumption) | exact absurd (by assumption) q3
      refine z_q0 (kq _ FR12 ?_) C
      unfold heQ; rw [if_neg C]; exact ⟨wfQ_1 HQ.1 pn, ((frm_r f8 (by omega))).trans HQ.2.1, ((frm_r f8 (by omega))).trans HQ.2.2.1, ((frm_r f8 (by omega))).trans HQ.2.2.2.1, ((show rI h6 m 36 = (orZ (q 3) 0) from (rI_eq e7 ⟨by omega, by omega⟩))).trans (orZ_0 (by omega)), ((frm_r f8 (by omega))).trans HQ.2.2.2.2.2.1, ((frm_r f8 (by omega))).trans HQ.2.2.2.2.2.2⟩
    · exfalso; omega
  · skip
    refine e_aload_n dX12_heats_8 rfl ?_
    refine z_get (q 3) dX12_heats_9 tf_12_322 (rk_s hk) (Or.inl rfl) HQ.2.2.2.2.1 ?_
    have y13 := wfQ_e HQ.1
    refine e_iload_n dX12_heats_12 rfl ?_
    refine e_callS [.int _, .int _] dX12_heats_13 tm_12_107 rfl (Nat.le_of_ble_eq_true rfl) (Nat.le_refl _) (Nat.le_refl _) rfl (zp_X12_has (q 3) ⟨by omega, by omega⟩ d ⟨by omega, by omega⟩ (by omega) (by omega) (by omega) ?_)
    refine z_ifb_ne 23 dX12_heats_16 rfl (fun c14 => ?_) (fun c14 => ?_)
    · skip
      refine z_iconst (0) dX12_heats_23 rfl ?_
      refine e_istore_n (L' := [_, _, _]) dX12_heats_24 (Nat.le_of_ble_eq_true rfl) rfl ?_
      refine e_aload_n dX12_heats_25 rfl ?_
      refine e_dup dX12_heats_26 rfl ?_
      refine z_get (q 3) dX12_heats_27 tf_12_322 (rk_s hk) (Or.inl rfl) HQ.2.2.2.2.1 ?_
      have y15 := wfQ_e HQ.1
      refine e_iload_n dX12_heats_30 rfl ?_
      refine z_if_eq 40 dX12_heats_31 rfl ⟨by omega, by omega⟩ (fun c16 => ?_) (fun c16 => ?_)
      · skip
        refine z_iconst (0) dX12_heats_40 rfl ?_
        refine z_ior dX12_heats_41 (by omega) (by omega) (by omega) (by omega) ?_
        have y17 := orZ_b (q 3) 0
        refine z_put dX12_heats_42 tf_12_322 (rk_s hk) rfl (Or.inl rfl) (fun h18 e19 => ?_)
        have f20 := frm_1 e19
        have k21 := rk_q (frm_s f20) hk
        have H22 := rB_c f20 (fun a k q => by omega) HB
        have H23 := rM_c f20 (fun a k q => by omega) HM
        have FR24 := frm_t FR0 (frm_m (S' := (fun a i => a = m ∧ i = 36)) f20 (fun a k q => by omega))
        refine e_iload_n dX12_heats_45 rfl ?_
        refine z_bret dX12_heats_46 rfl (Or.inl rfl) ⟨rfl, ?_⟩
        have C : ¬ cHea g q d := by rintro ⟨⟨q1, q2⟩, q3⟩; first | exact absurd q2 (by assumption) | exact absurd (by assumption) q3
        refine z_q0 (kq _ FR24 ?_) C
        unfold heQ; rw [if_neg C]; exact ⟨wfQ_1 HQ.1 pn, ((frm_r f20 (by omega))).trans HQ.2.1, ((frm_r f20 (by omega))).trans HQ.2.2.1, ((frm_r f20 (by omega))).trans HQ.2.2.2.1, ((show rI h18 m 36 = (orZ (q 3) 0) from (rI_eq e19 ⟨by omega, by omega⟩))).trans (orZ_0 (by omega)), ((frm_r f20 (by omega))).trans HQ.2.2.2.2.2.1, ((frm_r f20 (by omega))).trans HQ.2.2.2.2.2.2⟩
      · exfalso; omega
    · skip
      refine z_iconst (1) dX12_heats_19 rfl ?_
      refine e_goto 24 dX12_heats_20 rfl ?_
      refine e_istore_n (L' := [_, _, _]) dX12_heats_24 (Nat.le_of_ble_eq_true rfl) rfl ?_
      refine e_aload_n dX12_heats_25 rfl ?_
      refine e_dup dX12_heats_26 rfl ?_
      refine z_get (q 3) dX12_heats_27 tf_12_322 (rk_s hk) (Or.inl rfl) HQ.2.2.2.2.1 ?_
      have y25 := wfQ_e HQ.1
      refine e_iload_n dX12_heats_30 rfl ?_
      refine z_if_eq 40 dX12_heats_31 rfl ⟨by omega, by omega⟩ (fun c26 => ?_) (fun c26 => ?_)
      · exfalso; omega
      · skip
        refine z_iconst (1) dX12_heats_34 rfl ?_
        refine e_iload_n dX12_heats_35 rfl ?_
        refine z_ishl dX12_heats_36 (by omega) (by omega) (by omega) (by omega) ?_
        have y27 := shlZ_b 1 d
        refine e_goto 41 dX12_heats_37 rfl ?_
        refine z_ior dX12_heats_41 (by omega) (by omega) (by omega) (by omega) ?_
        have y28 := orZ_b (q 3) (shlZ 1 d)
        refine z_put dX12_heats_42 tf_12_322 (rk_s hk) rfl (Or.inl rfl) (fun h29 e30 => ?_)
        have f31 := frm_1 e30
        have k32 := rk_q (frm_s f31) hk
        have H33 := rB_c f31 (fun a k q => by omega) HB
        have H34 := rM_c f31 (fun a k q => by omega) HM
        have FR35 := frm_t FR0 (frm_m (S' := (fun a i => a = m ∧ i = 36)) f31 (fun a k q => by omega))
        refine e_iload_n dX12_heats_45 rfl ?_
        refine z_bret dX12_heats_46 rfl (Or.inr rfl) ⟨rfl, ?_⟩
        have C : cHea g q d := ⟨⟨by omega, by omega⟩, by assumption⟩
        refine z_q1 (kq _ FR35 ?_) C
        unfold heQ; rw [if_pos C]; exact ⟨wfQ_hea HQ.1 pn (by omega), ((frm_r f31 (by omega))).trans HQ.2.1, ((frm_r f31 (by omega))).trans HQ.2.2.1, ((frm_r f31 (by omega))).trans HQ.2.2.2.1, (show rI h29 m 36 = (orZ (q 3) (shlZ 1 d)) from (rI_eq e30 ⟨by omega, by omega⟩)), ((frm_r f31 (by omega))).trans HQ.2.2.2.2.2.1, ((frm_r f31 (by omega))).trans HQ.2.2.2.2.2.2⟩
set_option maxHeartbeats 400000 in
theorem zp_X12_oils {ad : mA} {dd : Nat} {h : mH} {Q : mQ} {m : Nat} {g q : Int → Int} {n : Int} (hk : rk h m) (HB : rB h m g) (HM : rM h m g) (HQ : rQ h m q n)  (d : Int) (d_r : -2147483648 ≤ d ∧ d < 2147483648) (pd : 0 ≤ d ∧ d < nd g) (pn : n < 1000) (kq : ∀ h1, frm (fun a i => a = m ∧ i = 37) h h1 → (rQ h1 m (oiQ g q d) (n + 1)) → Q (some (.int (zI (bZ (0 ≤ d ∧ d < nd g))))) h1) : mCal TB0 ad (dd + 2) M_X12_oils [.ref m, .int (zI d)] h 0 0 Q := by
  refine ⟨Nat.le_of_ble_eq_true rfl, ?_⟩
  show mEv TB0 ad M_X12_oils (dd + 2) (0, 0) (mCal TB0 ad (dd + 1)) (fun v h' z => z.1 = 0 ∧ Q v h') 0 [some (.ref m), some (.int (zI d))] [] h (0, 0)
  have FR0 : frm (fun a i => a = m ∧ i = 37) h h := frm_0 h
  have w1 := rB_n HB
  have w2 := rB_nd HB
  have w3 := rB_nu HB
  have wq := wfQ_e HQ.1
  refine e_aload_n dX12_oils_0 rfl ?_
  refine e_dup dX12_oils_1 rfl ?_
  refine z_get (q 4 + 64 * q 5) dX12_oils_2 tf_12_325 (rk_s hk) (Or.inl rfl) HQ.2.2.2.2.2.1 ?_
  have y1 := wfQ_e HQ.1
  refine z_iconst (1) dX12_oils_5 rfl ?_
  refine e_iload_n dX12_oils_6 rfl ?_
  refine z_ishl dX12_oils_7 (by omega) (by omega) (by omega) (by omega) ?_
  have y2 := shlZ_b 1 d
  refine e_aload_n dX12_oils_8 rfl ?_
  refine e_iload_n dX12_oils_9 rfl ?_
  refine e_callV [.int _] dX12_oils_10 tm_12_286 rfl (Nat.le_of_ble_eq_true rfl) (rk_s hk) (Nat.le_of_ble_eq_true rfl) (Nat.le_refl _) (Nat.le_refl _) rfl (zp_X12_isPaired hk HM d ⟨by omega, by omega⟩ (by omega) (by omega) ?_)
  have y3 := wM_d (rM_w HM) (show 0 ≤ d by omega) (by omega)
  refine z_ifb_eq 30 dX12_oils_13 rfl (fun c4 => ?_) (fun c4 => ?_)
  · skip
    refine z_iconst (0) dX12_oils_30 rfl ?_
    refine z_ior dX12_oils_31 (by omega) (by omega) (by omega) (by omega) ?_
    have y5 := orZ_b (shlZ 1 d) 0
    refine z_ior dX12_oils_32 (by omega) (by omega) (by omega) (by omega) ?_
    have y6 := orZ_b (q 4 + 64 * q 5) (orZ (shlZ 1 d) 0)
    refine z_put dX12_oils_33 tf_12_325 (rk_s hk) rfl (Or.inl rfl) (fun h7 e8 => ?_)
    have f9 := frm_1 e8
    have k10 := rk_q (frm_s f9) hk
    have H11 := rB_c f9 (fun a k q => by omega) HB
    have H12 := rM_c f9 (fun a k q => by omega) HM
    have FR13 := frm_t FR0 (frm_m (S' := (fun a i => a = m ∧ i = 37)) f9 (fun a k q => by omega))
    refine z_iconst (1) dX12_oils_36 rfl ?_
    refine z_bret dX12_oils_37 rfl (Or.inr rfl) ⟨rfl, ?_⟩
    refine z_q1 (kq _ FR13 ?_) pd
    unfold oiQ oilQ; rw [if_pos pd]
    rw [if_pos (by omega)]; exact ⟨wfQ_oil1 HQ.1 pn (by omega), ((frm_r f9 (by omega))).trans HQ.2.1, ((frm_r f9 (by omega))).trans HQ.2.2.1, ((frm_r f9 (by omega))).trans HQ.2.2.2.1, ((frm_r f9 (by omega))).trans HQ.2.2.2.2.1, ((show rI h7 m 37 = (orZ (q 4 + 64 * q 5) (orZ (shlZ 1 d) 0)) from (rI_eq e8 ⟨by omega, by omega⟩))).trans (show orZ (q 4 + 64 * q 5) (orZ (shlZ 1 d) 0) = orZ (q 4) (b1 d) + 64 * q 5 by rw [orZ_0 (by omega)]; exact or_lo (by omega) (by omega) (by omega)), ((frm_r f9 (by omega))).trans HQ.2.2.2.2.2.2⟩
  · skip
    refine z_iconst (1) dX12_oils_16 rfl ?_
    refine z_bipush (6) dX12_oils_17 rfl ?_
    refine e_aload_n dX12_oils_19 rfl ?_
    refine e_get (.ref (m + 15)) dX12_oils_20 tf_12_53 (rk_s hk) (congrArg va_rf (rk_r15 hk)) ?_
    refine e_iload_n dX12_oils_23 rfl ?_
    refine z_ild (dm g d) dX12_oils_24 (rk_a15 hk) (by decide) (by omega) (by omega) (rM_d HM (by omega) (by omega)) ?_
    have y14 := wM_d (rM_w HM) (show 0 ≤ d by omega) (by omega)
    refine z_iadd dX12_oils_25 ?_
    refine z_ishl dX12_oils_26 (by omega) (by omega) (by omega) (by omega) ?_
    have y15 := shlZ_b 1 (6 + (dm g d))
    refine e_goto 31 dX12_oils_27 rfl ?_
    refine z_ior dX12_oils_31 (by omega) (by omega) (by omega) (by omega) ?_
    have y16 := orZ_b (shlZ 1 d) (shlZ 1 (6 + (dm g d)))
    refine z_ior dX12_oils_32 (by omega) (by omega) (by omega) (by omega) ?_
    have y17 := orZ_b (q 4 + 64 * q 5) (orZ (shlZ 1 d) (shlZ 1 (6 + (dm g d))))
    refine z_put dX12_oils_33 tf_12_325 (rk_s hk) rfl (Or.inl rfl) (fun h18 e19 => ?_)
    have f20 := frm_1 e19
    have k21 := rk_q (frm_s f20) hk
    have H22 := rB_c f20 (fun a k q => by omega) HB
    have H23 := rM_c f20 (fun a k q => by omega) HM
    have FR24 := frm_t FR0 (frm_m (S' := (fun a i => a = m ∧ i = 37)) f20 (fun a k q => by omega))
    refine z_iconst (1) dX12_oils_36 rfl ?_
    refine z_bret dX12_oils_37 rfl (Or.inr rfl) ⟨rfl, ?_⟩
    refine z_q1 (kq _ FR24 ?_) pd
    unfold oiQ oilQ; rw [if_pos pd]
    rw [if_neg (by omega)]; exact ⟨wfQ_oil2 HQ.1 pn (by omega) (by omega), ((frm_r f20 (by omega))).trans HQ.2.1, ((frm_r f20 (by omega))).trans HQ.2.2.1, ((frm_r f20 (by omega))).trans HQ.2.2.2.1, ((frm_r f20 (by omega))).trans HQ.2.2.2.2.1, ((show rI h18 m 37 = (orZ (q 4 + 64 * q 5) (orZ (shlZ 1 d) (shlZ 1 (6 + (dm g d))))) from (rI_eq e19 ⟨by omega, by omega⟩))).trans (show orZ (q 4 + 64 * q 5) (orZ (shlZ 1 d) (shlZ 1 (6 + dm g d))) = orZ (q 4) (b1 d) + 64 * orZ (q 5) (b1 (dm g d)) by rw [← orZ_or, show shlZ 1 d = b1 d from rfl, or_lo (by omega) (by omega) (by omega)]; exact or_hi (or_b (by omega) (by omega)) (by omega) (by omega)), ((frm_r f20 (by omega))).trans HQ.2.2.2.2.2.2⟩
