/-! HIRE: a bid as a function -/
/-- the first of the greatest, as a function -/
def fmN (s : Int → Int) : Nat → Int
  | 0 => -1
  | k + 1 => if fmN s k = -1 ∨ s (fmN s k) < s (k : Int) then (k : Int) else fmN s k
theorem fmN_f (s : Int → Int) (k : Nat) : fmax (fun _ => True) s (k : Int) (fmN s k) := by
  induction k with
  | zero => exact fmax_0 _ _ (by omega)
  | succ k ih =>
    rw [show ((k + 1 : Nat) : Int) = (k : Int) + 1 by omega]
    show fmax _ s _ (if _ then _ else _)
    split
    · exact fmax_new ih (by omega) trivial (by assumption)
    · exact fmax_keep ih (by omega) (by omega)
/-- whom a down bids for -/
def bwZ (g w : Int → Int) (d : Int) : Int := fmN (wth g w d) (nu g).toNat
theorem bwZ_u {g w : Int → Int} {d v : Int} (hn : 0 ≤ nu g) (h : fmax (fun _ => True) (wth g w d) (nu g) v) : v = bwZ g w d := by
  have := fmN_f (wth g w d) (nu g).toNat
  rw [Int.toNat_of_nonneg hn] at this
  exact fmax_u h this
abbrev bdX (g w : Int → Int) (d : Int) : Prop := bwZ g w d = -1 ∨ fitZ g d (bwZ g w d) < w (bwZ g w d)
def bdR (g r t w : Int → Int) (d : Int) : Int → Int := if bdX g w d then r else if t (bwZ g w d) = -1 then setG r d (bwZ g w d) else setG (setG r (t (bwZ g w d)) 6) d (bwZ g w d)
def bdT (g t w : Int → Int) (d : Int) : Int → Int := if bdX g w d then t else setG t (bwZ g w d) d
def bdW (g t w : Int → Int) (d : Int) : Int → Int := if bdX g w d then w else if t (bwZ g w d) = -1 then w else setG w (bwZ g w d) (w (bwZ g w d) + 1)
def bdL (g w : Int → Int) (l d : Int) : Int := if bdX g w d then orZ l (b1 d) else l
