/-! THE LAW'S LOOP AND ITS START, over an invariant (written by program: wip/whole/gen31.py) -/
/-- what is owed of the methods: each of the class's answers as the reference's does -/
def op_0 (ad : mA) (B : Nat) (Inv : mH → Prop) : Prop := (∀ a b c e f : Int32, opI ad B Inv M_X11_feed M_X12_feed [.int a, .int b, .int c, .int e, .int f])
def op_1 (ad : mA) (B : Nat) (Inv : mH → Prop) : Prop := (∀ a : Int32, opI ad B Inv M_X11_end M_X12_end [.int a])
def op_2 (ad : mA) (B : Nat) (Inv : mH → Prop) : Prop := (∀ a b : Int32, opI ad B Inv M_X11_text M_X12_text [.int a, .int b])
def op_3 (ad : mA) (B : Nat) (Inv : mH → Prop) : Prop := (∀ a : Int32, opI ad B Inv M_X11_fault M_X12_fault [.int a])
def op_4 (ad : mA) (B : Nat) (Inv : mH → Prop) : Prop := (∀ a b : Int32, opI ad B Inv M_X11_forge M_X12_forge [.int a, .int b])
def op_5 (ad : mA) (B : Nat) (Inv : mH → Prop) : Prop := (∀ (a b c bb : Int32), bb = 0 ∨ bb = 1 → opI ad B Inv M_X11_fit M_X12_fit [.int a, .int b, .int c, .int bb])
def op_6 (ad : mA) (B : Nat) (Inv : mH → Prop) : Prop := (∀ a b c : Int32, opI ad B Inv M_X11_deed M_X12_deed [.int a, .int b, .int c])
def op_7 (ad : mA) (B : Nat) (Inv : mH → Prop) : Prop := (∀ a b : Int32, opI ad B Inv M_X11_till M_X12_till [.int a, .int b])
def op_8 (ad : mA) (B : Nat) (Inv : mH → Prop) : Prop := (∀ a b c e : Int32, opI ad B Inv M_X11_state M_X12_state [.int a, .int b, .int c, .int e])
def op_9 (ad : mA) (B : Nat) (Inv : mH → Prop) : Prop := (∀ a b : Int32, opI ad B Inv M_X11_leaving M_X12_leaving [.int a, .int b])
def op_10 (ad : mA) (B : Nat) (Inv : mH → Prop) : Prop := (∀ a b c : Int32, opI ad B Inv M_X11_row M_X12_row [.int a, .int b, .int c])
def op_11 (ad : mA) (B : Nat) (Inv : mH → Prop) : Prop := (∀ a b : Int32, opI ad B Inv M_X11_rows M_X12_rows [.int a, .int b])
def op_12 (ad : mA) (B : Nat) (Inv : mH → Prop) : Prop := (∀ a b : Int32, opI ad B Inv M_X11_trade M_X12_trade [.int a, .int b])
def op_13 (ad : mA) (B : Nat) (Inv : mH → Prop) : Prop := (∀ a b : Int32, opI ad B Inv M_X11_works M_X12_works [.int a, .int b])
def op_14 (ad : mA) (B : Nat) (Inv : mH → Prop) : Prop := (∀ (a b bb : Int32), bb = 0 ∨ bb = 1 → opI ad B Inv M_X11_grind M_X12_grind [.int a, .int b, .int bb])
def op_15 (ad : mA) (B : Nat) (Inv : mH → Prop) : Prop := (∀ a b c e : Int32, opJ ad B Inv M_X11_moment M_X12_moment [.int a, .int b, .int c, .int e])
def op_16 (ad : mA) (B : Nat) (Inv : mH → Prop) : Prop := (∀ a b c : Int32, opI ad B Inv M_X11_rest M_X12_rest [.int a, .int b, .int c])
def op_17 (ad : mA) (B : Nat) (Inv : mH → Prop) : Prop := (∀ a b c : Int32, opI ad B Inv M_X11_clue M_X12_clue [.int a, .int b, .int c])
def op_18 (ad : mA) (B : Nat) (Inv : mH → Prop) : Prop := (∀ a b c : Int32, opI ad B Inv M_X11_whose M_X12_whose [.int a, .int b, .int c])
def op_19 (ad : mA) (B : Nat) (Inv : mH → Prop) : Prop := (∀ a b c e : Int32, opI ad B Inv M_X11_drawn M_X12_drawn [.int a, .int b, .int c, .int e])
def op_20 (ad : mA) (B : Nat) (Inv : mH → Prop) : Prop := (∀ a : Int32, opI ad B Inv M_X11_crew M_X12_crew [.int a])
def op_21 (ad : mA) (B : Nat) (Inv : mH → Prop) : Prop := (∀ a b c : Int32, opI ad B Inv M_X11_idle M_X12_idle [.int a, .int b, .int c])
def op_22 (ad : mA) (B : Nat) (Inv : mH → Prop) : Prop := (∀ (a b bb : Int32), bb = 0 ∨ bb = 1 → opI ad B Inv M_X11_moves M_X12_moves [.int a, .int b, .int bb])
def op_23 (ad : mA) (B : Nat) (Inv : mH → Prop) : Prop := (∀ (a bb : Int32), bb = 0 ∨ bb = 1 → opI ad B Inv M_X11_rings M_X12_rings [.int a, .int bb])
def op_24 (ad : mA) (B : Nat) (Inv : mH → Prop) : Prop := (∀ a : Int32, opI ad B Inv M_X11_lone M_X12_lone [.int a])
def op_25 (ad : mA) (B : Nat) (Inv : mH → Prop) : Prop := (∀ a b : Int32, opI ad B Inv M_X11_rank M_X12_rank [.int a, .int b])
def op_26 (ad : mA) (B : Nat) (Inv : mH → Prop) : Prop := (∀ (a b c bb : Int32), bb = 0 ∨ bb = 1 → opI ad B Inv M_X11_trued M_X12_trued [.int a, .int b, .int c, .int bb])
def op_27 (ad : mA) (B : Nat) (Inv : mH → Prop) : Prop := (∀ a : Int32, opI ad B Inv M_X11_tips M_X12_tips [.int a])
def op_28 (ad : mA) (B : Nat) (Inv : mH → Prop) : Prop := (∀ (a bb : Int32), bb = 0 ∨ bb = 1 → opI ad B Inv M_X11_swap M_X12_swap [.int a, .int bb])
def op_29 (ad : mA) (B : Nat) (Inv : mH → Prop) : Prop := (∀ a : Int32, opI ad B Inv M_X11_settles M_X12_settles [.int a])
def op_30 (ad : mA) (B : Nat) (Inv : mH → Prop) : Prop := (∀ (a b bb : Int32), bb = 0 ∨ bb = 1 → opJ ad B Inv M_X11_share M_X12_share [.int a, .int b, .int bb])
def op_31 (ad : mA) (B : Nat) (Inv : mH → Prop) : Prop := (∀ (a b bb : Int32), bb = 0 ∨ bb = 1 → opI ad B Inv M_X11_hire M_X12_hire [.int a, .int b, .int bb])
def op_32 (ad : mA) (B : Nat) (Inv : mH → Prop) : Prop := (∀ a b c : Int32, opI ad B Inv M_X11_line M_X12_line [.int a, .int b, .int c])
def op_33 (ad : mA) (B : Nat) (Inv : mH → Prop) : Prop := (∀ a : Int32, opI ad B Inv M_X11_count M_X12_count [.int a])
def op_34 (ad : mA) (B : Nat) (Inv : mH → Prop) : Prop := (∀ a : Int32, opI ad B Inv M_X11_image M_X12_image [.int a])
def op_35 (ad : mA) (B : Nat) (Inv : mH → Prop) : Prop := (∀ a : Int32, opI ad B Inv M_X11_again M_X12_again [.int a])
def allOps (ad : mA) (B : Nat) (Inv : mH → Prop) : Prop := op_0 ad B Inv ∧ op_1 ad B Inv ∧ op_2 ad B Inv ∧ op_3 ad B Inv ∧ op_4 ad B Inv ∧ op_5 ad B Inv ∧ op_6 ad B Inv ∧ op_7 ad B Inv ∧ op_8 ad B Inv ∧ op_9 ad B Inv ∧ op_10 ad B Inv ∧ op_11 ad B Inv ∧ op_12 ad B Inv ∧ op_13 ad B Inv ∧ op_14 ad B Inv ∧ op_15 ad B Inv ∧ op_16 ad B Inv ∧ op_17 ad B Inv ∧ op_18 ad B Inv ∧ op_19 ad B Inv ∧ op_20 ad B Inv ∧ op_21 ad B Inv ∧ op_22 ad B Inv ∧ op_23 ad B Inv ∧ op_24 ad B Inv ∧ op_25 ad B Inv ∧ op_26 ad B Inv ∧ op_27 ad B Inv ∧ op_28 ad B Inv ∧ op_29 ad B Inv ∧ op_30 ad B Inv ∧ op_31 ad B Inv ∧ op_32 ad B Inv ∧ op_33 ad B Inv ∧ op_34 ad B Inv ∧ op_35 ad B Inv
theorem law_neg {L i : Nat} (h : L < 6) (hi : i < 2 ^ 31) : Int32.ofNat L - nI 6 < nI i := by
  have h1 : nI L - nI 6 < 0 := pk_sneg (by omega) h
  have h2 : (0 : Int32) ≤ nI i := nI_pos' hi
  exact Int32.lt_of_lt_of_le h1 h2
set_option maxRecDepth 50000 in
set_option maxHeartbeats 4000000 in
theorem law_loop {ad : mA} {B : Nat} {Inv : mH → Prop} (hs : ∀ h, Inv h → (mS h B).1 = 11 ∧ (mS h (B + 157)).1 = 12) (hL : ad.2.1 20 ≤ 3072) (ho : allOps ad B Inv) : ∀ (t i : Nat) (z : Nat × Nat) (h : mH), i ≤ 4000 → ad.2.1 20 < i + 6 + 6 * t → z.1 + 54 * (t + 1) ≤ 600000 → z.2 + 1113 * (t + 1) ≤ 7302250 → Inv h → lawEv ad 18 [some (.ref (ad.1 20)), some (.ref B), some (.ref (B + 157)), some (.int (nI i))] [] h z := by
  obtain ⟨o0, o1, o2, o3, o4, o5, o6, o7, o8, o9, o10, o11, o12, o13, o14, o15, o16, o17, o18, o19, o20, o21, o22, o23, o24, o25, o26, o27, o28, o29, o30, o31, o32, o33, o34, o35⟩ := ho
  intro t
  induction t with
  | zero =>
    intro i z h hi hb h1 h2 hI
    refine e_iload_n dL_law_18 rfl ?_
    refine e_aload_n dL_law_19 rfl ?_
    refine e_alenO dL_law_20 (Or.inr rfl) rfl ?_
    refine e_bipush (nI 6) dL_law_21 rfl ?_
    rcases Nat.lt_or_ge (ad.2.1 20) 6 with q | q
    · refine e_isub dL_law_23 ?_
      refine e_icmp_gt 1666 dL_law_24 rfl (fun _ => ?_) (fun c => absurd ?_ c)
      · refine e_iconst 1 dL_law_1666 rfl ?_
        exact e_zret dL_law_1667 rfl rfl rfl
      · exact law_neg q (by omega)
    · refine e_isubN dL_law_23 q ?_
      refine e_icmpN_gt 1666 dL_law_24 rfl (by omega) (by omega) (fun _ => ?_) (fun c => absurd c (by omega))
      refine e_iconst 1 dL_law_1666 rfl ?_
      exact e_zret dL_law_1667 rfl rfl rfl
  | succ t ih =>
    intro i z h hi hb h1 h2 hI
    refine e_iload_n dL_law_18 rfl ?_
    refine e_aload_n dL_law_19 rfl ?_
    refine e_alenO dL_law_20 (Or.inr rfl) rfl ?_
    refine e_bipush (nI 6) dL_law_21 rfl ?_
    rcases Nat.lt_or_ge (ad.2.1 20) 6 with q | q
    · refine e_isub dL_law_23 ?_
      refine e_icmp_gt 1666 dL_law_24 rfl (fun _ => ?_) (fun c => absurd ?_ c)
      · refine e_iconst 1 dL_law_1666 rfl ?_
        exact e_zret dL_law_1667 rfl rfl rfl
      · exact law_neg q (by omega)
    · refine e_isubN dL_law_23 q ?_
      refine e_icmpN_gt 1666 dL_law_24 rfl (by omega) (by omega) (fun _ => ?_) (fun c9 => ?_)
      · refine e_iconst 1 dL_law_1666 rfl ?_
        exact e_zret dL_law_1667 rfl rfl rfl
      · have hi6 : i + 6 ≤ ad.2.1 20 := by omega
        have nxt : ∀ h' mc ms, mc ≤ 54 → ms ≤ 1113 → Inv h' → lawEv ad 1660 [some (.ref (ad.1 20)), some (.ref B), some (.ref (B + 157)), some (.int (nI i))] [] h' (z.1 + mc, z.2 + ms) := by
          intro h' mc ms hmc hms hI'
          refine e_iincN (n := 6) (L' := [_, _, _, _]) dL_law_1660 rfl rfl rfl ?_
          refine e_goto 18 dL_law_1663 rfl ?_
          exact ih (i + 6) (z.1 + mc, z.2 + ms) h' (by omega) (by omega) (by show z.1 + mc + 54 * (t + 1) ≤ 600000; omega) (by show z.2 + ms + 1113 * (t + 1) ≤ 7302250; omega) hI'
        refine e_aload_n dL_law_27 rfl ?_
        refine e_iload_n dL_law_28 rfl ?_
        refine e_ildO dL_law_29 (Or.inr rfl) rfl (vp_in_nI (by omega) (by omega)) (congrArg (ad.2.2 20) (nI_clamp (by omega))) ?_
        refine e_bipush 63 dL_law_30 rfl ?_
        refine e_iand dL_law_32 ?_
        obtain ⟨j, hj, ej⟩ := pk_andE (ad.2.2 20 i) (m := 63) 6 (by decide)
        rw [ej]
        rcases Nat.lt_or_ge j 36 with hj2 | hj2
        · match j, hj2 with
          | 0, _ =>
            refine e_table 192 dL_law_33 (fun _ => by decide +kernel) (by decide +kernel) ?_
            exact law_c0 hs hi6 hL (by omega) (by omega) hI (o0 _ _ _ _ _ ) nxt
          | 1, _ =>
            refine e_table 255 dL_law_33 (fun _ => by decide +kernel) (by decide +kernel) ?_
            exact law_c1 hs hi6 hL (by omega) (by omega) hI (o1 _ ) nxt
          | 2, _ =>
            refine e_table 278 dL_law_33 (fun _ => by decide +kernel) (by decide +kernel) ?_
            exact law_c2 hs hi6 hL (by omega) (by omega) hI (o2 _ _ ) nxt
          | 3, _ =>
            refine e_table 311 dL_law_33 (fun _ => by decide +kernel) (by decide +kernel) ?_
            exact law_c3 hs hi6 hL (by omega) (by omega) hI (o3 _ ) nxt
          | 4, _ =>
            refine e_table 334 dL_law_33 (fun _ => by decide +kernel) (by decide +kernel) ?_
            exact law_c4 hs hi6 hL (by omega) (by omega) hI (o4 _ _ ) nxt
          | 5, _ =>
            refine e_table 367 dL_law_33 (fun _ => by decide +kernel) (by decide +kernel) ?_
            exact law_c5 hs hi6 hL (by omega) (by omega) hI (fun bb hb => o5 _ _ _ bb hb) nxt
          | 6, _ =>
            refine e_table 436 dL_law_33 (fun _ => by decide +kernel) (by decide +kernel) ?_
            exact law_c6 hs hi6 hL (by omega) (by omega) hI (o6 _ _ _ ) nxt
          | 7, _ =>
            refine e_table 479 dL_law_33 (fun _ => by decide +kernel) (by decide +kernel) ?_
            exact law_c7 hs hi6 hL (by omega) (by omega) hI (o7 _ _ ) nxt
          | 8, _ =>
            refine e_table 512 dL_law_33 (fun _ => by decide +kernel) (by decide +kernel) ?_
            exact law_c8 hs hi6 hL (by omega) (by omega) hI (o8 _ _ _ _ ) nxt
          | 9, _ =>
            refine e_table 565 dL_law_33 (fun _ => by decide +kernel) (by decide +kernel) ?_
            exact law_c9 hs hi6 hL (by omega) (by omega) hI (o9 _ _ ) nxt
          | 10, _ =>
            refine e_table 598 dL_law_33 (fun _ => by decide +kernel) (by decide +kernel) ?_
            exact law_c10 hs hi6 hL (by omega) (by omega) hI (o10 _ _ _ ) nxt
          | 11, _ =>
            refine e_table 641 dL_law_33 (fun _ => by decide +kernel) (by decide +kernel) ?_
            exact law_c11 hs hi6 hL (by omega) (by omega) hI (o11 _ _ ) nxt
          | 12, _ =>
            refine e_table 674 dL_law_33 (fun _ => by decide +kernel) (by decide +kernel) ?_
            exact law_c12 hs hi6 hL (by omega) (by omega) hI (o12 _ _ ) nxt
          | 13, _ =>
            refine e_table 707 dL_law_33 (fun _ => by decide +kernel) (by decide +kernel) ?_
            exact law_c13 hs hi6 hL (by omega) (by omega) hI (o13 _ _ ) nxt
          | 14, _ =>
            refine e_table 740 dL_law_33 (fun _ => by decide +kernel) (by decide +kernel) ?_
            exact law_c14 hs hi6 hL (by omega) (by omega) hI (fun bb hb => o14 _ _ bb hb) nxt
          | 15, _ =>
            refine e_table 799 dL_law_33 (fun _ => by decide +kernel) (by decide +kernel) ?_
            exact law_c15 hs hi6 hL (by omega) (by omega) hI (o15 _ _ _ _ ) nxt
          | 16, _ =>
            refine e_table 853 dL_law_33 (fun _ => by decide +kernel) (by decide +kernel) ?_
            exact law_c16 hs hi6 hL (by omega) (by omega) hI (o16 _ _ _ ) nxt
          | 17, _ =>
            refine e_table 896 dL_law_33 (fun _ => by decide +kernel) (by decide +kernel) ?_
            exact law_c17 hs hi6 hL (by omega) (by omega) hI (o17 _ _ _ ) nxt
          | 18, _ =>
            refine e_table 939 dL_law_33 (fun _ => by decide +kernel) (by decide +kernel) ?_
            exact law_c18 hs hi6 hL (by omega) (by omega) hI (o18 _ _ _ ) nxt
          | 19, _ =>
            refine e_table 982 dL_law_33 (fun _ => by decide +kernel) (by decide +kernel) ?_
            exact law_c19 hs hi6 hL (by omega) (by omega) hI (o19 _ _ _ _ ) nxt
          | 20, _ =>
            refine e_table 1035 dL_law_33 (fun _ => by decide +kernel) (by decide +kernel) ?_
            exact law_c20 hs hi6 hL (by omega) (by omega) hI (o20 _ ) nxt
          | 21, _ =>
            refine e_table 1058 dL_law_33 (fun _ => by decide +kernel) (by decide +kernel) ?_
            exact law_c21 hs hi6 hL (by omega) (by omega) hI (o21 _ _ _ ) nxt
          | 22, _ =>
            refine e_table 1101 dL_law_33 (fun _ => by decide +kernel) (by decide +kernel) ?_
            exact law_c22 hs hi6 hL (by omega) (by omega) hI (fun bb hb => o22 _ _ bb hb) nxt
          | 23, _ =>
            refine e_table 1160 dL_law_33 (fun _ => by decide +kernel) (by decide +kernel) ?_
            exact law_c23 hs hi6 hL (by omega) (by omega) hI (fun bb hb => o23 _ bb hb) nxt
          | 24, _ =>
            refine e_table 1209 dL_law_33 (fun _ => by decide +kernel) (by decide +kernel) ?_
            exact law_c24 hs hi6 hL (by omega) (by omega) hI (o24 _ ) nxt
          | 25, _ =>
            refine e_table 1232 dL_law_33 (fun _ => by decide +kernel) (by decide +kernel) ?_
            exact law_c25 hs hi6 hL (by omega) (by omega) hI (o25 _ _ ) nxt
          | 26, _ =>
            refine e_table 1265 dL_law_33 (fun _ => by decide +kernel) (by decide +kernel) ?_
            exact law_c26 hs hi6 hL (by omega) (by omega) hI (fun bb hb => o26 _ _ _ bb hb) nxt
          | 27, _ =>
            refine e_table 1334 dL_law_33 (fun _ => by decide +kernel) (by decide +kernel) ?_
            exact law_c27 hs hi6 hL (by omega) (by omega) hI (o27 _ ) nxt
          | 28, _ =>
            refine e_table 1357 dL_law_33 (fun _ => by decide +kernel) (by decide +kernel) ?_
            exact law_c28 hs hi6 hL (by omega) (by omega) hI (fun bb hb => o28 _ bb hb) nxt
          | 29, _ =>
            refine e_table 1406 dL_law_33 (fun _ => by decide +kernel) (by decide +kernel) ?_
            exact law_c29 hs hi6 hL (by omega) (by omega) hI (o29 _ ) nxt
          | 30, _ =>
            refine e_table 1429 dL_law_33 (fun _ => by decide +kernel) (by decide +kernel) ?_
            exact law_c30 hs hi6 hL (by omega) (by omega) hI (fun bb hb => o30 _ _ bb hb) nxt
          | 31, _ =>
            refine e_table 1489 dL_law_33 (fun _ => by decide +kernel) (by decide +kernel) ?_
            exact law_c31 hs hi6 hL (by omega) (by omega) hI (fun bb hb => o31 _ _ bb hb) nxt
          | 32, _ =>
            refine e_table 1548 dL_law_33 (fun _ => by decide +kernel) (by decide +kernel) ?_
            exact law_c32 hs hi6 hL (by omega) (by omega) hI (o32 _ _ _ ) nxt
          | 33, _ =>
            refine e_table 1591 dL_law_33 (fun _ => by decide +kernel) (by decide +kernel) ?_
            exact law_c33 hs hi6 hL (by omega) (by omega) hI (o33 _ ) nxt
          | 34, _ =>
            refine e_table 1614 dL_law_33 (fun _ => by decide +kernel) (by decide +kernel) ?_
            exact law_c34 hs hi6 hL (by omega) (by omega) hI (o34 _ ) nxt
          | 35, _ =>
            refine e_table 1637 dL_law_33 (fun _ => by decide +kernel) (by decide +kernel) ?_
            exact law_c35 hs hi6 hL (by omega) (by omega) hI (o35 _ ) nxt
          | n + 36, h36 => exact absurd h36 (by omega)
        · refine e_table 1660 dL_law_33 (fun q => absurd (Or.inr ?_) q) ?_ (nxt h 0 0 (by omega) (by omega) hI)
          · rw [nI_toInt (by omega)]; omega
          · rw [nI_toInt (by omega)]
            unfold mTab
            rw [if_pos (Or.inr (by omega))]
            rfl
theorem tc_13_10 : tCls TB0 13 10 = some 12 := rfl
theorem tc_13_7 : tCls TB0 13 7 = some 11 := rfl
set_option maxRecDepth 20000 in
theorem tm_13_12 : tMet TB0 13 12 = some (2, M_X12_init) := rfl
set_option maxRecDepth 20000 in
theorem tm_13_9 : tMet TB0 13 9 = some (2, M_X11_init) := rfl
/-- the law's abstract run, out of an invariant that the constructors bring and all calls keep -/
def lawInv : Prop := ∀ (ad : mA) (B : Nat), ad.2.1 20 ≤ 3072 → (∀ j, j < 20 → ad.2.1 j = (mKc j).length ∧ ∀ k, ad.2.2 j k = (mKc j).getD k 0) → ∃ Inv : mH → Prop, (∀ h, hp h B [] (R_X11_init 0 ++ R_X12_init 157) → Inv h) ∧ (∀ h, Inv h → (mS h B).1 = 11 ∧ (mS h (B + 157)).1 = 12) ∧ allOps ad B Inv
set_option maxHeartbeats 4000000 in
set_option maxRecDepth 20000 in
theorem law_start (hl : lawInv) : mLawOK := by
  intro ad B hL hk
  obtain ⟨Inv, h1, h2, h3⟩ := hl ad B hL hk
  have hh : hp (mh0 B) B [] [] := ⟨rfl, fun o c hc => by simp at hc⟩
  refine k_new hh dL_law_0 tc_13_7 (Nat.le_of_ble_eq_true rfl) (Nat.le_of_ble_eq_true rfl) (fun h hh => ?_)
  refine e_dup dL_law_3 rfl ?_
  refine k_ctor hh dL_law_4 (Or.inl tm_13_9) rfl (Nat.le_of_ble_eq_true rfl) (Nat.le_of_ble_eq_true rfl) (Nat.le_of_ble_eq_true rfl) (ko_X11_init ad _ B) (fun h hh => ?_)
  refine e_astore_n (L' := [_, _, _, _]) dL_law_7 (Nat.le_of_ble_eq_true rfl) rfl ?_
  refine k_new hh dL_law_8 tc_13_10 (Nat.le_of_ble_eq_true rfl) (Nat.le_of_ble_eq_true rfl) (fun h hh => ?_)
  refine e_dup dL_law_11 rfl ?_
  refine k_ctor hh dL_law_12 (Or.inl tm_13_12) rfl (Nat.le_of_ble_eq_true rfl) (Nat.le_of_ble_eq_true rfl) (Nat.le_of_ble_eq_true rfl) (ko_X12_init ad _ B) (fun h hh => ?_)
  refine e_astore_n (L' := [_, _, _, _]) dL_law_15 (Nat.le_of_ble_eq_true rfl) rfl ?_
  refine e_iconst (nI 0) dL_law_16 rfl ?_
  refine e_istore_n (L' := [_, _, _, _]) dL_law_17 (Nat.le_of_ble_eq_true rfl) rfl ?_
  exact law_loop h2 hL h3 512 0 _ h (by omega) (by omega) (Nat.le_of_ble_eq_true rfl) (Nat.le_of_ble_eq_true rfl) (h1 h hh)
