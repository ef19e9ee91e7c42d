/-! ROWS of the class: orders by numbers -/
/-! ROWS of the class: the orders gone through are all full rows, by numbers (kernel) -/
def oI (c : Nat) : Int → Int := fun k => ((c / 7 ^ k.toNat % 7 : Nat) : Int)
def cO (o : Int → Int) : Nat := (o 0).toNat + 7 * (o 1).toNat + 49 * (o 2).toNat + 343 * (o 3).toNat + 2401 * (o 4).toNat + 16807 * (o 5).toNat
/-- digit k of the row of an order -/
def rdN (d c k : Nat) : Nat := if k < d then c / 7 ^ k % 7 else 6
def rcN (d c : Nat) : Nat := rdN d c 0 * 16807 + rdN d c 1 * 2401 + rdN d c 2 * 343 + rdN d c 3 * 49 + rdN d c 4 * 7 + rdN d c 5
/-- no full row between lo and hi behind a beginning (n digits left, at place p, code so far, UPS used, how many) -/
def gpN (d u lo hi : Nat) : Nat → Nat → Nat → Nat → Nat → Bool
  | 0, _, pc, _, pl => !(Nat.blt lo pc && Nat.blt pc hi) || Nat.blt pl (min d u)
  | n + 1, p, pc, us, pl =>
    if (pc + 1) * 7 ^ (n + 1) ≤ lo + 1 ∨ hi ≤ pc * 7 ^ (n + 1) ∨ pl + (d - p) < min d u then true
    else gpN d u lo hi n (p + 1) (pc * 7 + 6) us pl
      && (if p < d ∧ 0 < u ∧ us % 2 = 0 then gpN d u lo hi n (p + 1) (pc * 7) (us + 1) (pl + 1) else true)
      && (if p < d ∧ 1 < u ∧ us / 2 % 2 = 0 then gpN d u lo hi n (p + 1) (pc * 7 + 1) (us + 2) (pl + 1) else true)
      && (if p < d ∧ 2 < u ∧ us / 4 % 2 = 0 then gpN d u lo hi n (p + 1) (pc * 7 + 2) (us + 4) (pl + 1) else true)
      && (if p < d ∧ 3 < u ∧ us / 8 % 2 = 0 then gpN d u lo hi n (p + 1) (pc * 7 + 3) (us + 8) (pl + 1) else true)
      && (if p < d ∧ 4 < u ∧ us / 16 % 2 = 0 then gpN d u lo hi n (p + 1) (pc * 7 + 4) (us + 16) (pl + 1) else true)
      && (if p < d ∧ 5 < u ∧ us / 32 % 2 = 0 then gpN d u lo hi n (p + 1) (pc * 7 + 5) (us + 32) (pl + 1) else true)
def frc (n : Nat) (f : Nat → Bool) : Bool := match n with
  | 0 => f 0
  | m + 1 => f (m + 1)
/-- the row of an order is a row, and full: digits below u or 6, no UP twice, as many as can be -/
def dsN (d c a b : Nat) : Bool := Nat.beq (rdN d c a) 6 || !(Nat.beq (rdN d c a) (rdN d c b))
def fuN (d u c : Nat) : Bool := (Nat.blt (rdN d c 0) u || Nat.beq (rdN d c 0) 6) && (Nat.blt (rdN d c 1) u || Nat.beq (rdN d c 1) 6) && (Nat.blt (rdN d c 2) u || Nat.beq (rdN d c 2) 6) && (Nat.blt (rdN d c 3) u || Nat.beq (rdN d c 3) 6) && (Nat.blt (rdN d c 4) u || Nat.beq (rdN d c 4) 6) && (Nat.blt (rdN d c 5) u || Nat.beq (rdN d c 5) 6)
  && dsN d c 0 1 && dsN d c 0 2 && dsN d c 0 3 && dsN d c 0 4 && dsN d c 0 5 && dsN d c 1 2 && dsN d c 1 3 && dsN d c 1 4 && dsN d c 1 5 && dsN d c 2 3 && dsN d c 2 4 && dsN d c 2 5 && dsN d c 3 4 && dsN d c 3 5 && dsN d c 4 5
  && Nat.beq ((if rdN d c 0 < 6 then 1 else 0) + (if rdN d c 1 < 6 then 1 else 0) + (if rdN d c 2 < 6 then 1 else 0) + (if rdN d c 3 < 6 then 1 else 0) + (if rdN d c 4 < 6 then 1 else 0) + (if rdN d c 5 < 6 then 1 else 0)) (min d u)
/-- from the order c on -/
def ckN (d u : Nat) : Nat → Nat → Bool
  | 0, _ => false
  | n + 1, c => fuN d u c && (if nxI d u (oI c) < 0 then frc (rcN d c) (fun a => gpN d u a 117649 6 0 0 0 0) else
      frc (cO (nxF d u (oI c))) (fun c' => frc (rcN d c) (fun a => frc (rcN d c') (fun b => Nat.blt a b && gpN d u a b 6 0 0 0 0)) && ckN d u n c'))
def bgN (d u : Nat) : Bool := frc (cO (bgF u)) (fun c => frc (rcN d c) (fun a => gpN d u 0 a 6 0 0 0 0) && ckN d u 720 c)
set_option maxRecDepth 100000 in
theorem bg_00 : bgN 0 0 = true := by decide +kernel
set_option maxRecDepth 100000 in
theorem bg_01 : bgN 0 1 = true := by decide +kernel
set_option maxRecDepth 100000 in
theorem bg_02 : bgN 0 2 = true := by decide +kernel
set_option maxRecDepth 100000 in
theorem bg_03 : bgN 0 3 = true := by decide +kernel
set_option maxRecDepth 100000 in
theorem bg_04 : bgN 0 4 = true := by decide +kernel
set_option maxRecDepth 100000 in
theorem bg_05 : bgN 0 5 = true := by decide +kernel
set_option maxRecDepth 100000 in
theorem bg_06 : bgN 0 6 = true := by decide +kernel
set_option maxRecDepth 100000 in
theorem bg_10 : bgN 1 0 = true := by decide +kernel
set_option maxRecDepth 100000 in
theorem bg_11 : bgN 1 1 = true := by decide +kernel
set_option maxRecDepth 100000 in
theorem bg_12 : bgN 1 2 = true := by decide +kernel
set_option maxRecDepth 100000 in
theorem bg_13 : bgN 1 3 = true := by decide +kernel
set_option maxRecDepth 100000 in
theorem bg_14 : bgN 1 4 = true := by decide +kernel
set_option maxRecDepth 100000 in
theorem bg_15 : bgN 1 5 = true := by decide +kernel
set_option maxRecDepth 100000 in
theorem bg_16 : bgN 1 6 = true := by decide +kernel
set_option maxRecDepth 100000 in
theorem bg_20 : bgN 2 0 = true := by decide +kernel
set_option maxRecDepth 100000 in
theorem bg_21 : bgN 2 1 = true := by decide +kernel
set_option maxRecDepth 100000 in
theorem bg_22 : bgN 2 2 = true := by decide +kernel
set_option maxRecDepth 100000 in
theorem bg_23 : bgN 2 3 = true := by decide +kernel
set_option maxRecDepth 100000 in
theorem bg_24 : bgN 2 4 = true := by decide +kernel
set_option maxRecDepth 100000 in
theorem bg_25 : bgN 2 5 = true := by decide +kernel
set_option maxRecDepth 100000 in
theorem bg_26 : bgN 2 6 = true := by decide +kernel
set_option maxRecDepth 100000 in
theorem bg_30 : bgN 3 0 = true := by decide +kernel
set_option maxRecDepth 100000 in
theorem bg_31 : bgN 3 1 = true := by decide +kernel
set_option maxRecDepth 100000 in
theorem bg_32 : bgN 3 2 = true := by decide +kernel
set_option maxRecDepth 100000 in
theorem bg_33 : bgN 3 3 = true := by decide +kernel
set_option maxRecDepth 100000 in
theorem bg_34 : bgN 3 4 = true := by decide +kernel
set_option maxRecDepth 100000 in
theorem bg_35 : bgN 3 5 = true := by decide +kernel
set_option maxRecDepth 100000 in
theorem bg_36 : bgN 3 6 = true := by decide +kernel
set_option maxRecDepth 100000 in
theorem bg_40 : bgN 4 0 = true := by decide +kernel
set_option maxRecDepth 100000 in
theorem bg_41 : bgN 4 1 = true := by decide +kernel
set_option maxRecDepth 100000 in
theorem bg_42 : bgN 4 2 = true := by decide +kernel
set_option maxRecDepth 100000 in
theorem bg_43 : bgN 4 3 = true := by decide +kernel
set_option maxRecDepth 100000 in
theorem bg_44 : bgN 4 4 = true := by decide +kernel
set_option maxRecDepth 100000 in
theorem bg_45 : bgN 4 5 = true := by decide +kernel
set_option maxRecDepth 100000 in
theorem bg_46 : bgN 4 6 = true := by decide +kernel
set_option maxRecDepth 100000 in
theorem bg_50 : bgN 5 0 = true := by decide +kernel
set_option maxRecDepth 100000 in
theorem bg_51 : bgN 5 1 = true := by decide +kernel
set_option maxRecDepth 100000 in
theorem bg_52 : bgN 5 2 = true := by decide +kernel
set_option maxRecDepth 100000 in
theorem bg_53 : bgN 5 3 = true := by decide +kernel
set_option maxRecDepth 100000 in
theorem bg_54 : bgN 5 4 = true := by decide +kernel
set_option maxRecDepth 100000 in
theorem bg_55 : bgN 5 5 = true := by decide +kernel
set_option maxRecDepth 100000 in
theorem bg_56 : bgN 5 6 = true := by decide +kernel
set_option maxRecDepth 100000 in
theorem bg_60 : bgN 6 0 = true := by decide +kernel
set_option maxRecDepth 100000 in
theorem bg_61 : bgN 6 1 = true := by decide +kernel
set_option maxRecDepth 100000 in
theorem bg_62 : bgN 6 2 = true := by decide +kernel
set_option maxRecDepth 100000 in
theorem bg_63 : bgN 6 3 = true := by decide +kernel
set_option maxRecDepth 100000 in
theorem bg_64 : bgN 6 4 = true := by decide +kernel
set_option maxRecDepth 100000 in
theorem bg_65 : bgN 6 5 = true := by decide +kernel
set_option maxRecDepth 100000 in
theorem bg_66 : bgN 6 6 = true := by decide +kernel
