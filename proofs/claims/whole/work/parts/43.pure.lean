/-! PURE FORGES: 81 numbers, laid as the reference lays them; what the class's forge and the reference's rows hold of them -/
def nd (g : Int → Int) : Int := g 0
def nu (g : Int → Int) : Int := g 1
def nc (g : Int → Int) : Int := g 2
def dl (g : Int → Int) (i : Int) : Int := g (3 + i)
def ds (g : Int → Int) (i : Int) : Int := g (9 + i)
def de (g : Int → Int) (i : Int) : Int := g (15 + i)
def dh (g : Int → Int) (i : Int) : Int := g (21 + i)
def dm (g : Int → Int) (i : Int) : Int := g (27 + i)
def ul (g : Int → Int) (i : Int) : Int := g (33 + i)
def us (g : Int → Int) (i : Int) : Int := g (39 + i)
def ue (g : Int → Int) (i : Int) : Int := g (45 + i)
def uh (g : Int → Int) (i : Int) : Int := g (51 + i)
def um (g : Int → Int) (i : Int) : Int := g (57 + i)
def ha (g : Int → Int) (i : Int) : Int := g (63 + i)
def pr (g : Int → Int) (i : Int) : Int := g (69 + i)
def dy (g : Int → Int) (i : Int) : Int := g (75 + i)
def wfB (g : Int → Int) : Prop := (0 ≤ nd g ∧ nd g ≤ 6) ∧ (0 ≤ nu g ∧ nu g ≤ 6) ∧ (∀ d, 0 ≤ d → d < nd g → (1 ≤ dl g d ∧ dl g d ≤ 20) ∧ (0 ≤ ds g d ∧ ds g d ≤ 3) ∧ (0 ≤ de g d ∧ de g d ≤ 20) ∧ (0 ≤ dh g d ∧ dh g d ≤ 1)) ∧ (∀ u, 0 ≤ u → u < nu g → (1 ≤ ul g u ∧ ul g u ≤ 20) ∧ (0 ≤ us g u ∧ us g u ≤ 3) ∧ (0 ≤ ue g u ∧ ue g u ≤ 20) ∧ (0 ≤ uh g u ∧ uh g u ≤ 1))
def wfM (g : Int → Int) : Prop := (∀ d, 0 ≤ d → d < 6 → dm g d = -1 ∨ (d < nd g ∧ (0 ≤ dm g d ∧ dm g d < 6) ∧ dm g d < nu g ∧ um g (dm g d) = d)) ∧ (∀ u, 0 ≤ u → u < 6 → um g u = -1 ∨ (u < nu g ∧ (0 ≤ um g u ∧ um g u < 6) ∧ um g u < nd g ∧ dm g (um g u) = u))
def wfC (g : Int → Int) : Prop := (0 ≤ nc g ∧ nc g ≤ 6) ∧ (∀ c, 0 ≤ c → c < nc g → (1 ≤ ha g c ∧ ha g c ≤ 70) ∧ (0 ≤ pr g c ∧ pr g c ≤ 20) ∧ (0 ≤ dy g c ∧ dy g c ≤ 9))
def wfF (g : Int → Int) : Prop := wfB g ∧ wfM g ∧ wfC g
theorem wB_n {g : Int → Int} (w : wfB g) : (0 ≤ nd g ∧ nd g ≤ 6) ∧ (0 ≤ nu g ∧ nu g ≤ 6) := ⟨w.1, w.2.1⟩
theorem wB_d {g : Int → Int} (w : wfB g) {d : Int} (h0 : 0 ≤ d) (h1 : d < nd g) : (1 ≤ dl g d ∧ dl g d ≤ 20) ∧ (0 ≤ ds g d ∧ ds g d ≤ 3) ∧ (0 ≤ de g d ∧ de g d ≤ 20) ∧ (0 ≤ dh g d ∧ dh g d ≤ 1) := w.2.2.1 d h0 h1
theorem wB_u {g : Int → Int} (w : wfB g) {u : Int} (h0 : 0 ≤ u) (h1 : u < nu g) : (1 ≤ ul g u ∧ ul g u ≤ 20) ∧ (0 ≤ us g u ∧ us g u ≤ 3) ∧ (0 ≤ ue g u ∧ ue g u ≤ 20) ∧ (0 ≤ uh g u ∧ uh g u ≤ 1) := w.2.2.2 u h0 h1
theorem wC_c {g : Int → Int} (w : wfC g) {c : Int} (h0 : 0 ≤ c) (h1 : c < nc g) : (1 ≤ ha g c ∧ ha g c ≤ 70) ∧ (0 ≤ pr g c ∧ pr g c ≤ 20) ∧ (0 ≤ dy g c ∧ dy g c ≤ 9) := w.2 c h0 h1
theorem wM_d {g : Int → Int} (w : wfM g) {d : Int} (h0 : 0 ≤ d) (h1 : d < 6) : dm g d = -1 ∨ (d < nd g ∧ (0 ≤ dm g d ∧ dm g d < 6) ∧ dm g d < nu g ∧ um g (dm g d) = d) := w.1 d h0 h1
theorem wM_u {g : Int → Int} (w : wfM g) {u : Int} (h0 : 0 ≤ u) (h1 : u < 6) : um g u = -1 ∨ (u < nu g ∧ (0 ≤ um g u ∧ um g u < 6) ∧ um g u < nd g ∧ dm g (um g u) = u) := w.2 u h0 h1
def isF (h : mH) (f : Nat) (g : Int → Int) : Prop := wfF g ∧ (rI h (f + 1) 5 = nd g ∧ rI h (f + 7) 5 = nu g ∧ rI h f 5 = nc g) ∧ (∀ i : Int, 0 ≤ i → i < nd g → rI h (f + 2) i = dl g i ∧ rI h (f + 3) i = ds g i ∧ rI h (f + 4) i = de g i ∧ rI h (f + 5) i = dh g i) ∧ (∀ i : Int, 0 ≤ i → i < nu g → rI h (f + 8) i = ul g i ∧ rI h (f + 9) i = us g i ∧ rI h (f + 10) i = ue g i ∧ rI h (f + 11) i = uh g i) ∧ (∀ i : Int, 0 ≤ i → i < 6 → rI h (f + 6) i = dm g i ∧ rI h (f + 12) i = um g i) ∧ (∀ i : Int, 0 ≤ i → i < nc g → rI h (f + 13) i = ha g i ∧ rI h (f + 14) i = pr g i ∧ rI h (f + 15) i = dy g i)
theorem isF_w {h : mH} {f : Nat} {g : Int → Int} (H : isF h f g) : wfF g := H.1
theorem isF_n {h : mH} {f : Nat} {g : Int → Int} (H : isF h f g) : (0 ≤ nd g ∧ nd g ≤ 6) ∧ (0 ≤ nu g ∧ nu g ≤ 6) ∧ (0 ≤ nc g ∧ nc g ≤ 6) := ⟨H.1.1.1, H.1.1.2.1, H.1.2.2.1⟩
theorem isF_nd {h : mH} {f : Nat} {g : Int → Int} (H : isF h f g) : rI h (f + 1) 5 = nd g := H.2.1.1
theorem isF_nu {h : mH} {f : Nat} {g : Int → Int} (H : isF h f g) : rI h (f + 7) 5 = nu g := H.2.1.2.1
theorem isF_nc {h : mH} {f : Nat} {g : Int → Int} (H : isF h f g) : rI h f 5 = nc g := H.2.1.2.2
theorem isF_dl {h : mH} {f : Nat} {g : Int → Int} (H : isF h f g) {i : Int} (h0 : 0 ≤ i) (h1 : i < nd g) : rI h (f + 2) i = dl g i := (H.2.2.1 i h0 h1).1
theorem isF_ds {h : mH} {f : Nat} {g : Int → Int} (H : isF h f g) {i : Int} (h0 : 0 ≤ i) (h1 : i < nd g) : rI h (f + 3) i = ds g i := (H.2.2.1 i h0 h1).2.1
theorem isF_de {h : mH} {f : Nat} {g : Int → Int} (H : isF h f g) {i : Int} (h0 : 0 ≤ i) (h1 : i < nd g) : rI h (f + 4) i = de g i := (H.2.2.1 i h0 h1).2.2.1
theorem isF_dh {h : mH} {f : Nat} {g : Int → Int} (H : isF h f g) {i : Int} (h0 : 0 ≤ i) (h1 : i < nd g) : rI h (f + 5) i = dh g i := (H.2.2.1 i h0 h1).2.2.2
theorem isF_ul {h : mH} {f : Nat} {g : Int → Int} (H : isF h f g) {i : Int} (h0 : 0 ≤ i) (h1 : i < nu g) : rI h (f + 8) i = ul g i := (H.2.2.2.1 i h0 h1).1
theorem isF_us {h : mH} {f : Nat} {g : Int → Int} (H : isF h f g) {i : Int} (h0 : 0 ≤ i) (h1 : i < nu g) : rI h (f + 9) i = us g i := (H.2.2.2.1 i h0 h1).2.1
theorem isF_ue {h : mH} {f : Nat} {g : Int → Int} (H : isF h f g) {i : Int} (h0 : 0 ≤ i) (h1 : i < nu g) : rI h (f + 10) i = ue g i := (H.2.2.2.1 i h0 h1).2.2.1
theorem isF_uh {h : mH} {f : Nat} {g : Int → Int} (H : isF h f g) {i : Int} (h0 : 0 ≤ i) (h1 : i < nu g) : rI h (f + 11) i = uh g i := (H.2.2.2.1 i h0 h1).2.2.2
theorem isF_dm {h : mH} {f : Nat} {g : Int → Int} (H : isF h f g) {i : Int} (h0 : 0 ≤ i) (h1 : i < 6) : rI h (f + 6) i = dm g i := (H.2.2.2.2.1 i h0 h1).1
theorem isF_um {h : mH} {f : Nat} {g : Int → Int} (H : isF h f g) {i : Int} (h0 : 0 ≤ i) (h1 : i < 6) : rI h (f + 12) i = um g i := (H.2.2.2.2.1 i h0 h1).2
theorem isF_ha {h : mH} {f : Nat} {g : Int → Int} (H : isF h f g) {i : Int} (h0 : 0 ≤ i) (h1 : i < nc g) : rI h (f + 13) i = ha g i := (H.2.2.2.2.2 i h0 h1).1
theorem isF_pr {h : mH} {f : Nat} {g : Int → Int} (H : isF h f g) {i : Int} (h0 : 0 ≤ i) (h1 : i < nc g) : rI h (f + 14) i = pr g i := (H.2.2.2.2.2 i h0 h1).2.1
theorem isF_dy {h : mH} {f : Nat} {g : Int → Int} (H : isF h f g) {i : Int} (h0 : 0 ≤ i) (h1 : i < nc g) : rI h (f + 15) i = dy g i := (H.2.2.2.2.2 i h0 h1).2.2
theorem isF_q {h h1 : mH} {f : Nat} {g : Int → Int} (e : ∀ a, f ≤ a → a < f + 16 → ∀ z, rI h1 a z = rI h a z) (H : isF h f g) : isF h1 f g := by
  obtain ⟨w, ⟨a1, a2, a3⟩, b, c, d, k⟩ := H
  have e0 := e f (by omega) (by omega)
  have e1 := e (f + 1) (by omega) (by omega)
  have e2 := e (f + 2) (by omega) (by omega)
  have e3 := e (f + 3) (by omega) (by omega)
  have e4 := e (f + 4) (by omega) (by omega)
  have e5 := e (f + 5) (by omega) (by omega)
  have e6 := e (f + 6) (by omega) (by omega)
  have e7 := e (f + 7) (by omega) (by omega)
  have e8 := e (f + 8) (by omega) (by omega)
  have e9 := e (f + 9) (by omega) (by omega)
  have e10 := e (f + 10) (by omega) (by omega)
  have e11 := e (f + 11) (by omega) (by omega)
  have e12 := e (f + 12) (by omega) (by omega)
  have e13 := e (f + 13) (by omega) (by omega)
  have e14 := e (f + 14) (by omega) (by omega)
  have e15 := e (f + 15) (by omega) (by omega)
  refine ⟨w, ⟨(e1 5).trans a1, (e7 5).trans a2, (e0 5).trans a3⟩, fun i x y => ?_, fun i x y => ?_, fun i x y => ?_, fun i x y => ?_⟩
  · obtain ⟨p, q, r, s⟩ := b i x y
    exact ⟨(e2 i).trans p, (e3 i).trans q, (e4 i).trans r, (e5 i).trans s⟩
  · obtain ⟨p, q, r, s⟩ := c i x y
    exact ⟨(e8 i).trans p, (e9 i).trans q, (e10 i).trans r, (e11 i).trans s⟩
  · obtain ⟨p, q⟩ := d i x y
    exact ⟨(e6 i).trans p, (e12 i).trans q⟩
  · obtain ⟨p, q, r⟩ := k i x y
    exact ⟨(e13 i).trans p, (e14 i).trans q, (e15 i).trans r⟩
theorem isF_c {S : Nat → Nat → Prop} {h h1 : mH} {f : Nat} {g : Int → Int} (s : frm S h h1) (n : ∀ a k, f ≤ a → a < f + 16 → ¬ S a k) (H : isF h f g) : isF h1 f g := isF_q (fun a x y z => frm_r s (n a z.toNat x y)) H
/-- the reference's blades as they lie in its rows -/
def rB (h : mH) (m : Nat) (g : Int → Int) : Prop := wfB g ∧ (rI h m 24 = nd g ∧ rI h m 25 = nu g) ∧ ((∀ i : Int, 0 ≤ i → i < nd g → rI h (m + 11) i = dl g i) ∧ (∀ i : Int, 0 ≤ i → i < nu g → rI h (m + 11) (6 + i) = ul g i)) ∧ ((∀ i : Int, 0 ≤ i → i < nd g → rI h (m + 12) i = ds g i) ∧ (∀ i : Int, 0 ≤ i → i < nu g → rI h (m + 12) (6 + i) = us g i)) ∧ ((∀ i : Int, 0 ≤ i → i < nd g → rI h (m + 13) i = de g i) ∧ (∀ i : Int, 0 ≤ i → i < nu g → rI h (m + 13) (6 + i) = ue g i)) ∧ ((∀ i : Int, 0 ≤ i → i < nd g → rI h (m + 14) i = dh g i) ∧ (∀ i : Int, 0 ≤ i → i < nu g → rI h (m + 14) (6 + i) = uh g i))
def rM (h : mH) (m : Nat) (g : Int → Int) : Prop := wfM g ∧ (∀ i : Int, 0 ≤ i → i < 6 → rI h (m + 15) i = dm g i ∧ rI h (m + 15) (6 + i) = um g i)
def rC (h : mH) (m : Nat) (g : Int → Int) : Prop := wfC g ∧ rI h m 26 = nc g ∧ (0 ≤ rI h m 23 ∧ rI h m 23 < 2) ∧ (∀ i : Int, 0 ≤ i → i < nc g → rI h (m + 6) (81 * rI h m 23 + (63 + i)) = ha g i ∧ rI h (m + 6) (81 * rI h m 23 + (69 + i)) = pr g i ∧ rI h (m + 6) (81 * rI h m 23 + (75 + i)) = dy g i)
theorem rB_w {h : mH} {m : Nat} {g : Int → Int} (H : rB h m g) : wfB g := H.1
theorem rB_n {h : mH} {m : Nat} {g : Int → Int} (H : rB h m g) : (0 ≤ nd g ∧ nd g ≤ 6) ∧ (0 ≤ nu g ∧ nu g ≤ 6) := ⟨H.1.1, H.1.2.1⟩
theorem rB_nd {h : mH} {m : Nat} {g : Int → Int} (H : rB h m g) : rI h m 24 = nd g := H.2.1.1
theorem rB_nu {h : mH} {m : Nat} {g : Int → Int} (H : rB h m g) : rI h m 25 = nu g := H.2.1.2
theorem rB_dl {h : mH} {m : Nat} {g : Int → Int} (H : rB h m g) {i : Int} (h0 : 0 ≤ i) (h1 : i < nd g) : rI h (m + 11) i = dl g i := H.2.2.1.1 i h0 h1
theorem rB_ul {h : mH} {m : Nat} {g : Int → Int} (H : rB h m g) {i : Int} (h0 : 0 ≤ i) (h1 : i < nu g) : rI h (m + 11) (6 + i) = ul g i := H.2.2.1.2 i h0 h1
theorem rB_ds {h : mH} {m : Nat} {g : Int → Int} (H : rB h m g) {i : Int} (h0 : 0 ≤ i) (h1 : i < nd g) : rI h (m + 12) i = ds g i := H.2.2.2.1.1 i h0 h1
theorem rB_us {h : mH} {m : Nat} {g : Int → Int} (H : rB h m g) {i : Int} (h0 : 0 ≤ i) (h1 : i < nu g) : rI h (m + 12) (6 + i) = us g i := H.2.2.2.1.2 i h0 h1
theorem rB_de {h : mH} {m : Nat} {g : Int → Int} (H : rB h m g) {i : Int} (h0 : 0 ≤ i) (h1 : i < nd g) : rI h (m + 13) i = de g i := H.2.2.2.2.1.1 i h0 h1
theorem rB_ue {h : mH} {m : Nat} {g : Int → Int} (H : rB h m g) {i : Int} (h0 : 0 ≤ i) (h1 : i < nu g) : rI h (m + 13) (6 + i) = ue g i := H.2.2.2.2.1.2 i h0 h1
theorem rB_dh {h : mH} {m : Nat} {g : Int → Int} (H : rB h m g) {i : Int} (h0 : 0 ≤ i) (h1 : i < nd g) : rI h (m + 14) i = dh g i := H.2.2.2.2.2.1 i h0 h1
theorem rB_uh {h : mH} {m : Nat} {g : Int → Int} (H : rB h m g) {i : Int} (h0 : 0 ≤ i) (h1 : i < nu g) : rI h (m + 14) (6 + i) = uh g i := H.2.2.2.2.2.2 i h0 h1
theorem rM_w {h : mH} {m : Nat} {g : Int → Int} (H : rM h m g) : wfM g := H.1
theorem rM_d {h : mH} {m : Nat} {g : Int → Int} (H : rM h m g) {i : Int} (h0 : 0 ≤ i) (h1 : i < 6) : rI h (m + 15) i = dm g i := (H.2 i h0 h1).1
theorem rM_u {h : mH} {m : Nat} {g : Int → Int} (H : rM h m g) {i : Int} (h0 : 0 ≤ i) (h1 : i < 6) : rI h (m + 15) (6 + i) = um g i := (H.2 i h0 h1).2
theorem rC_w {h : mH} {m : Nat} {g : Int → Int} (H : rC h m g) : wfC g := H.1
theorem rC_n {h : mH} {m : Nat} {g : Int → Int} (H : rC h m g) : 0 ≤ nc g ∧ nc g ≤ 6 := H.1.1
theorem rC_nc {h : mH} {m : Nat} {g : Int → Int} (H : rC h m g) : rI h m 26 = nc g := H.2.1
theorem rC_f {h : mH} {m : Nat} {g : Int → Int} (H : rC h m g) : 0 ≤ rI h m 23 ∧ rI h m 23 < 2 := H.2.2.1
theorem rC_ha {h : mH} {m : Nat} {g : Int → Int} (H : rC h m g) {i : Int} (h0 : 0 ≤ i) (h1 : i < nc g) : rI h (m + 6) (81 * rI h m 23 + (63 + i)) = ha g i := (H.2.2.2 i h0 h1).1
theorem rC_pr {h : mH} {m : Nat} {g : Int → Int} (H : rC h m g) {i : Int} (h0 : 0 ≤ i) (h1 : i < nc g) : rI h (m + 6) (81 * rI h m 23 + (69 + i)) = pr g i := (H.2.2.2 i h0 h1).2.1
theorem rC_dy {h : mH} {m : Nat} {g : Int → Int} (H : rC h m g) {i : Int} (h0 : 0 ≤ i) (h1 : i < nc g) : rI h (m + 6) (81 * rI h m 23 + (75 + i)) = dy g i := (H.2.2.2 i h0 h1).2.2
theorem rB_q {h h1 : mH} {m : Nat} {g : Int → Int} (e0 : rI h1 m 24 = rI h m 24) (e0' : rI h1 m 25 = rI h m 25) (e : ∀ a, m + 11 ≤ a → a < m + 15 → ∀ z, rI h1 a z = rI h a z) (H : rB h m g) : rB h1 m g := by
  obtain ⟨w, ⟨a1, a2⟩, ⟨b1, b2⟩, ⟨c1, c2⟩, ⟨d1, d2⟩, k1, k2⟩ := H
  have e1 := e (m + 11) (by omega) (by omega)
  have e2 := e (m + 12) (by omega) (by omega)
  have e3 := e (m + 13) (by omega) (by omega)
  have e4 := e (m + 14) (by omega) (by omega)
  exact ⟨w, ⟨e0.trans a1, e0'.trans a2⟩, ⟨fun i x y => (e1 _).trans (b1 i x y), fun i x y => (e1 _).trans (b2 i x y)⟩, ⟨fun i x y => (e2 _).trans (c1 i x y), fun i x y => (e2 _).trans (c2 i x y)⟩, ⟨fun i x y => (e3 _).trans (d1 i x y), fun i x y => (e3 _).trans (d2 i x y)⟩, fun i x y => (e4 _).trans (k1 i x y), fun i x y => (e4 _).trans (k2 i x y)⟩
theorem rB_c {S : Nat → Nat → Prop} {h h1 : mH} {m : Nat} {g : Int → Int} (s : frm S h h1) (n : ∀ a k, (a = m ∧ 24 ≤ k ∧ k ≤ 25) ∨ (m + 11 ≤ a ∧ a < m + 15) → ¬ S a k) (H : rB h m g) : rB h1 m g := rB_q (frm_r s (n _ _ (by omega))) (frm_r s (n _ _ (by omega))) (fun a x y z => frm_r s (n a z.toNat (by omega))) H
theorem rM_c {S : Nat → Nat → Prop} {h h1 : mH} {m : Nat} {g : Int → Int} (s : frm S h h1) (n : ∀ a k, a = m + 15 → ¬ S a k) (H : rM h m g) : rM h1 m g := ⟨H.1, fun i x y => ⟨(frm_r s (n _ _ rfl)).trans (H.2 i x y).1, (frm_r s (n _ _ rfl)).trans (H.2 i x y).2⟩⟩
theorem rC_c {S : Nat → Nat → Prop} {h h1 : mH} {m : Nat} {g : Int → Int} (s : frm S h h1) (n : ∀ a k, (a = m ∧ (k = 26 ∨ k = 23)) ∨ a = m + 6 → ¬ S a k) (H : rC h m g) : rC h1 m g := by
  obtain ⟨w, a1, a2, b⟩ := H
  have e1 : rI h1 m 26 = rI h m 26 := frm_r s (n _ _ (by omega))
  have e2 : rI h1 m 23 = rI h m 23 := frm_r s (n _ _ (by omega))
  have e3 : ∀ z, rI h1 (m + 6) z = rI h (m + 6) z := fun z => frm_r s (n _ _ (by omega))
  refine ⟨w, e1.trans a1, by rw [e2]; exact a2, fun i x y => ?_⟩
  rw [e2, e3, e3, e3]
  exact b i x y
/-- FIT, POWER -/
def fitZ (g : Int → Int) (d u : Int) : Int := max 0 (30 - 5 * absI (ds g d - us g u) - (if dh g d = uh g u then 0 else 12) - 2 * absI (dl g d - ul g u))
theorem fitZ_b (g : Int → Int) (d u : Int) : 0 ≤ fitZ g d u ∧ fitZ g d u ≤ 30 := by
  unfold fitZ absI
  have : ∀ p : Prop, ∀ [Decidable p], 0 ≤ (if p then (0 : Int) else 12) := fun p _ => by split <;> omega
  have := this (dh g d = uh g u)
  split <;> split <;> omega
def upv (g : Int → Int) (d : Int) : Int := if 0 ≤ d ∧ d < nd g then dm g d else -1
theorem upv_s {g : Int → Int} (w : wfF g) (d : Int) : upv g d = -1 ∨ (0 ≤ d ∧ d < nd g ∧ upv g d = dm g d ∧ 0 ≤ upv g d ∧ upv g d < nu g) := by
  unfold upv
  by_cases c : 0 ≤ d ∧ d < nd g
  · rw [if_pos c]
    have := wM_d w.2.1 c.1 (by have := w.1.1; omega)
    omega
  · rw [if_neg c]; exact Or.inl rfl
