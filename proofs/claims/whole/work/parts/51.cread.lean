/-! the class's lagoon -/
theorem fd0 (h : AH) (a : Nat) : aI h a 0 = iI (rd h a 0) := rd_I h a (i := 0) (by omega)
theorem fd1 (h : AH) (a : Nat) : aI h a 1 = iI (rd h a 1) := rd_I h a (i := 1) (by omega)
theorem fd2 (h : AH) (a : Nat) : aI h a 2 = iI (rd h a 2) := rd_I h a (i := 2) (by omega)
theorem fd3 (h : AH) (a : Nat) : aI h a 3 = iI (rd h a 3) := rd_I h a (i := 3) (by omega)
theorem fd4 (h : AH) (a : Nat) : aI h a 4 = iI (rd h a 4) := rd_I h a (i := 4) (by omega)
theorem fd5 (h : AH) (a : Nat) : aI h a 5 = iI (rd h a 5) := rd_I h a (i := 5) (by omega)
theorem fd6 (h : AH) (a : Nat) : aI h a 6 = iI (rd h a 6) := rd_I h a (i := 6) (by omega)
theorem fd7 (h : AH) (a : Nat) : aI h a 7 = iI (rd h a 7) := rd_I h a (i := 7) (by omega)
theorem fd8 (h : AH) (a : Nat) : aI h a 8 = iI (rd h a 8) := rd_I h a (i := 8) (by omega)
theorem fd9 (h : AH) (a : Nat) : aI h a 9 = iI (rd h a 9) := rd_I h a (i := 9) (by omega)
theorem fd10 (h : AH) (a : Nat) : aI h a 10 = iI (rd h a 10) := rd_I h a (i := 10) (by omega)
theorem fd11 (h : AH) (a : Nat) : aI h a 11 = iI (rd h a 11) := rd_I h a (i := 11) (by omega)
theorem fd12 (h : AH) (a : Nat) : aI h a 12 = iI (rd h a 12) := rd_I h a (i := 12) (by omega)
theorem fd13 (h : AH) (a : Nat) : aI h a 13 = iI (rd h a 13) := rd_I h a (i := 13) (by omega)
theorem fd14 (h : AH) (a : Nat) : aI h a 14 = iI (rd h a 14) := rd_I h a (i := 14) (by omega)
theorem fd15 (h : AH) (a : Nat) : aI h a 15 = iI (rd h a 15) := rd_I h a (i := 15) (by omega)
theorem fd16 (h : AH) (a : Nat) : aI h a 16 = iI (rd h a 16) := rd_I h a (i := 16) (by omega)
theorem fd17 (h : AH) (a : Nat) : aI h a 17 = iI (rd h a 17) := rd_I h a (i := 17) (by omega)
theorem fd18 (h : AH) (a : Nat) : aI h a 18 = iI (rd h a 18) := rd_I h a (i := 18) (by omega)
theorem fd19 (h : AH) (a : Nat) : aI h a 19 = iI (rd h a 19) := rd_I h a (i := 19) (by omega)
theorem fd20 (h : AH) (a : Nat) : aI h a 20 = iI (rd h a 20) := rd_I h a (i := 20) (by omega)
theorem fd21 (h : AH) (a : Nat) : aI h a 21 = iI (rd h a 21) := rd_I h a (i := 21) (by omega)
theorem fd22 (h : AH) (a : Nat) : aI h a 22 = iI (rd h a 22) := rd_I h a (i := 22) (by omega)
theorem fd23 (h : AH) (a : Nat) : aI h a 23 = iI (rd h a 23) := rd_I h a (i := 23) (by omega)
theorem fd24 (h : AH) (a : Nat) : aI h a 24 = iI (rd h a 24) := rd_I h a (i := 24) (by omega)
theorem fd25 (h : AH) (a : Nat) : aI h a 25 = iI (rd h a 25) := rd_I h a (i := 25) (by omega)
theorem fd26 (h : AH) (a : Nat) : aI h a 26 = iI (rd h a 26) := rd_I h a (i := 26) (by omega)
theorem fd27 (h : AH) (a : Nat) : aI h a 27 = iI (rd h a 27) := rd_I h a (i := 27) (by omega)
theorem fd28 (h : AH) (a : Nat) : aI h a 28 = iI (rd h a 28) := rd_I h a (i := 28) (by omega)
theorem fd29 (h : AH) (a : Nat) : aI h a 29 = iI (rd h a 29) := rd_I h a (i := 29) (by omega)
theorem fd30 (h : AH) (a : Nat) : aI h a 30 = iI (rd h a 30) := rd_I h a (i := 30) (by omega)
theorem fd31 (h : AH) (a : Nat) : aI h a 31 = iI (rd h a 31) := rd_I h a (i := 31) (by omega)
theorem fd32 (h : AH) (a : Nat) : aI h a 32 = iI (rd h a 32) := rd_I h a (i := 32) (by omega)
theorem fd33 (h : AH) (a : Nat) : aI h a 33 = iI (rd h a 33) := rd_I h a (i := 33) (by omega)
theorem fd34 (h : AH) (a : Nat) : aI h a 34 = iI (rd h a 34) := rd_I h a (i := 34) (by omega)
theorem fd35 (h : AH) (a : Nat) : aI h a 35 = iI (rd h a 35) := rd_I h a (i := 35) (by omega)
theorem fd36 (h : AH) (a : Nat) : aI h a 36 = iI (rd h a 36) := rd_I h a (i := 36) (by omega)
theorem fd37 (h : AH) (a : Nat) : aI h a 37 = iI (rd h a 37) := rd_I h a (i := 37) (by omega)
theorem fd38 (h : AH) (a : Nat) : aI h a 38 = iI (rd h a 38) := rd_I h a (i := 38) (by omega)
theorem fd39 (h : AH) (a : Nat) : aI h a 39 = iI (rd h a 39) := rd_I h a (i := 39) (by omega)
theorem fd40 (h : AH) (a : Nat) : aI h a 40 = iI (rd h a 40) := rd_I h a (i := 40) (by omega)
theorem fd41 (h : AH) (a : Nat) : aI h a 41 = iI (rd h a 41) := rd_I h a (i := 41) (by omega)
theorem fd42 (h : AH) (a : Nat) : aI h a 42 = iI (rd h a 42) := rd_I h a (i := 42) (by omega)
theorem fd43 (h : AH) (a : Nat) : aI h a 43 = iI (rd h a 43) := rd_I h a (i := 43) (by omega)
theorem fd44 (h : AH) (a : Nat) : aI h a 44 = iI (rd h a 44) := rd_I h a (i := 44) (by omega)
theorem fd45 (h : AH) (a : Nat) : aI h a 45 = iI (rd h a 45) := rd_I h a (i := 45) (by omega)
theorem fd46 (h : AH) (a : Nat) : aI h a 46 = iI (rd h a 46) := rd_I h a (i := 46) (by omega)
theorem fd47 (h : AH) (a : Nat) : aI h a 47 = iI (rd h a 47) := rd_I h a (i := 47) (by omega)
theorem fd48 (h : AH) (a : Nat) : aI h a 48 = iI (rd h a 48) := rd_I h a (i := 48) (by omega)
theorem fd49 (h : AH) (a : Nat) : aI h a 49 = iI (rd h a 49) := rd_I h a (i := 49) (by omega)
theorem fd50 (h : AH) (a : Nat) : aI h a 50 = iI (rd h a 50) := rd_I h a (i := 50) (by omega)
theorem fd51 (h : AH) (a : Nat) : aI h a 51 = iI (rd h a 51) := rd_I h a (i := 51) (by omega)
theorem fd52 (h : AH) (a : Nat) : aI h a 52 = iI (rd h a 52) := rd_I h a (i := 52) (by omega)
def LR (h : AH) (la : Nat) (s : Int → Int) : Prop := (rd h la 0 = s 0) ∧ (rd h la 1 = s 1) ∧ (rd h la 5 = s 2) ∧ (rd h la 11 = s 3) ∧ (rd h (la + 10) 0 = s 4) ∧ (rd h (la + 16) 0 = s 5) ∧ (∀ x y, 0 ≤ x → x < s 0 → 0 ≤ y → y < s 1 → rd h (la + 1) (8 * y + x) = s (11 + 8 * y + x)) ∧ (∀ g x y, 0 ≤ g → g < 10 → 0 ≤ x → x < 8 → 0 ≤ y → y < 8 → (zb (aJ h (la + 2) g.toNat) (8 * y + x) ↔ x < s 0 ∧ y < s 1 ∧ s (11 + 8 * y + x) ≤ g)) ∧ (∀ i, 0 ≤ i → i < 24 → rd h (la + 3) i = s (75 + i)) ∧ (∀ r, 0 ≤ r → r < s 2 → rd h (la + 5) r = s (99 + 3 * r)) ∧ (∀ r, 0 ≤ r → r < s 2 → rd h (la + 6) r = s (99 + 3 * r + 1)) ∧ (∀ r, 0 ≤ r → r < s 2 → rd h (la + 7) r = s (99 + 3 * r + 2)) ∧ (∀ k, 0 ≤ k → k < s 3 → rd h (la + 9) k = 8 * s (123 + 2 * k + 1) + s (123 + 2 * k)) ∧ (∀ k, 0 ≤ k → k < s 4 → rd h (la + 11) k = s (135 + 4 * k)) ∧ (∀ k, 0 ≤ k → k < s 4 → rd h (la + 12) k = s (135 + 4 * k + 1)) ∧ (∀ k, 0 ≤ k → k < s 4 → rd h (la + 13) k = s (135 + 4 * k + 2)) ∧ (∀ k, 0 ≤ k → k < s 4 → rd h (la + 14) k = s (135 + 4 * k + 3)) ∧ (∀ r, 0 ≤ r → r < 8 → rd h (la + 15) r = s (167 + r)) ∧ (∀ w, 0 ≤ w → w < s 5 → rd h (la + 17) w = s (175 + 5 * w)) ∧ (∀ w, 0 ≤ w → w < s 5 → rd h (la + 18) w = s (175 + 5 * w + 1)) ∧ (∀ w, 0 ≤ w → w < s 5 → rd h (la + 19) w = (if s (175 + 5 * w) = 3 then 8 * s (175 + 5 * w + 3) + s (175 + 5 * w + 2) else s (175 + 5 * w + 2))) ∧ (∀ w, 0 ≤ w → w < s 5 → rd h (la + 20) w = s (175 + 5 * w + 4)) ∧ (∀ x y, 0 ≤ x → x < 8 → 0 ≤ y → y < 8 → (zb (aJ h la 13) (8 * y + x) ↔ s 6 ≤ x ∧ x < s 6 + s 8 ∧ s 7 ≤ y ∧ y < s 7 + s 9))
theorem LR.c0 {h : AH} {la : Nat} {s : Int → Int} (L : LR h la s) : rd h la 0 = s 0 := L.1
theorem LR.c1 {h : AH} {la : Nat} {s : Int → Int} (L : LR h la s) : rd h la 1 = s 1 := L.2.1
theorem LR.c5 {h : AH} {la : Nat} {s : Int → Int} (L : LR h la s) : rd h la 5 = s 2 := L.2.2.1
theorem LR.c11 {h : AH} {la : Nat} {s : Int → Int} (L : LR h la s) : rd h la 11 = s 3 := L.2.2.2.1
theorem LR.q0 {h : AH} {la : Nat} {s : Int → Int} (L : LR h la s) : rd h (la + 10) 0 = s 4 := L.2.2.2.2.1
theorem LR.w0 {h : AH} {la : Nat} {s : Int → Int} (L : LR h la s) : rd h (la + 16) 0 = s 5 := L.2.2.2.2.2.1
theorem LR.gr {h : AH} {la : Nat} {s : Int → Int} (L : LR h la s) : ∀ x y, 0 ≤ x → x < s 0 → 0 ≤ y → y < s 1 → rd h (la + 1) (8 * y + x) = s (11 + 8 * y + x) := L.2.2.2.2.2.2.1
theorem LR.up {h : AH} {la : Nat} {s : Int → Int} (L : LR h la s) : ∀ g x y, 0 ≤ g → g < 10 → 0 ≤ x → x < 8 → 0 ≤ y → y < 8 → (zb (aJ h (la + 2) g.toNat) (8 * y + x) ↔ x < s 0 ∧ y < s 1 ∧ s (11 + 8 * y + x) ≤ g) := L.2.2.2.2.2.2.2.1
theorem LR.td {h : AH} {la : Nat} {s : Int → Int} (L : LR h la s) : ∀ i, 0 ≤ i → i < 24 → rd h (la + 3) i = s (75 + i) := L.2.2.2.2.2.2.2.2.1
theorem LR.wi {h : AH} {la : Nat} {s : Int → Int} (L : LR h la s) : ∀ r, 0 ≤ r → r < s 2 → rd h (la + 5) r = s (99 + 3 * r) := L.2.2.2.2.2.2.2.2.2.1
theorem LR.hi {h : AH} {la : Nat} {s : Int → Int} (L : LR h la s) : ∀ r, 0 ≤ r → r < s 2 → rd h (la + 6) r = s (99 + 3 * r + 1) := L.2.2.2.2.2.2.2.2.2.2.1
theorem LR.dr {h : AH} {la : Nat} {s : Int → Int} (L : LR h la s) : ∀ r, 0 ≤ r → r < s 2 → rd h (la + 7) r = s (99 + 3 * r + 2) := L.2.2.2.2.2.2.2.2.2.2.2.1
theorem LR.po {h : AH} {la : Nat} {s : Int → Int} (L : LR h la s) : ∀ k, 0 ≤ k → k < s 3 → rd h (la + 9) k = 8 * s (123 + 2 * k + 1) + s (123 + 2 * k) := L.2.2.2.2.2.2.2.2.2.2.2.2.1
theorem LR.ro {h : AH} {la : Nat} {s : Int → Int} (L : LR h la s) : ∀ k, 0 ≤ k → k < s 4 → rd h (la + 11) k = s (135 + 4 * k) := L.2.2.2.2.2.2.2.2.2.2.2.2.2.1
theorem LR.rp {h : AH} {la : Nat} {s : Int → Int} (L : LR h la s) : ∀ k, 0 ≤ k → k < s 4 → rd h (la + 12) k = s (135 + 4 * k + 1) := L.2.2.2.2.2.2.2.2.2.2.2.2.2.2.1
theorem LR.rq {h : AH} {la : Nat} {s : Int → Int} (L : LR h la s) : ∀ k, 0 ≤ k → k < s 4 → rd h (la + 13) k = s (135 + 4 * k + 2) := L.2.2.2.2.2.2.2.2.2.2.2.2.2.2.2.1
theorem LR.rh {h : AH} {la : Nat} {s : Int → Int} (L : LR h la s) : ∀ k, 0 ≤ k → k < s 4 → rd h (la + 14) k = s (135 + 4 * k + 3) := L.2.2.2.2.2.2.2.2.2.2.2.2.2.2.2.2.1
theorem LR.mo {h : AH} {la : Nat} {s : Int → Int} (L : LR h la s) : ∀ r, 0 ≤ r → r < 8 → rd h (la + 15) r = s (167 + r) := L.2.2.2.2.2.2.2.2.2.2.2.2.2.2.2.2.2.1
theorem LR.wk {h : AH} {la : Nat} {s : Int → Int} (L : LR h la s) : ∀ w, 0 ≤ w → w < s 5 → rd h (la + 17) w = s (175 + 5 * w) := L.2.2.2.2.2.2.2.2.2.2.2.2.2.2.2.2.2.2.1
theorem LR.wh {h : AH} {la : Nat} {s : Int → Int} (L : LR h la s) : ∀ w, 0 ≤ w → w < s 5 → rd h (la + 18) w = s (175 + 5 * w + 1) := L.2.2.2.2.2.2.2.2.2.2.2.2.2.2.2.2.2.2.2.1
theorem LR.wt {h : AH} {la : Nat} {s : Int → Int} (L : LR h la s) : ∀ w, 0 ≤ w → w < s 5 → rd h (la + 19) w = (if s (175 + 5 * w) = 3 then 8 * s (175 + 5 * w + 3) + s (175 + 5 * w + 2) else s (175 + 5 * w + 2)) := L.2.2.2.2.2.2.2.2.2.2.2.2.2.2.2.2.2.2.2.2.1
theorem LR.ww {h : AH} {la : Nat} {s : Int → Int} (L : LR h la s) : ∀ w, 0 ≤ w → w < s 5 → rd h (la + 20) w = s (175 + 5 * w + 4) := L.2.2.2.2.2.2.2.2.2.2.2.2.2.2.2.2.2.2.2.2.2.1
theorem LR.sq {h : AH} {la : Nat} {s : Int → Int} (L : LR h la s) : ∀ x y, 0 ≤ x → x < 8 → 0 ≤ y → y < 8 → (zb (aJ h la 13) (8 * y + x) ↔ s 6 ≤ x ∧ x < s 6 + s 8 ∧ s 7 ≤ y ∧ y < s 7 + s 9) := L.2.2.2.2.2.2.2.2.2.2.2.2.2.2.2.2.2.2.2.2.2.2
def zS (s : Int → Int) : Int → Int := fun i => s (99 + i)
def SD (s : Int → Int) : Prop := (∀ i, 0 ≤ i → i < 24 → s (75 + i) ≤ 9) ∧ (∀ x y, 0 ≤ x → x < s 0 → 0 ≤ y → y < s 1 → s (11 + 8 * y + x) ≤ 9) ∧ (∀ r, 0 ≤ r → r < s 2 → ((1 ≤ s (99 + 3 * r) ∧ s (99 + 3 * r) ≤ 3) ∧ 1 ≤ s (99 + 3 * r + 1) ∧ s (99 + 3 * r + 1) ≤ 3) ∧ s (99 + 3 * r + 2) ≤ 9)
def wsp (s : Int → Int) (r sp : Int) : Int := if 64 ≤ sp then s (99 + 3 * r + 1) else s (99 + 3 * r)
def hsp (s : Int → Int) (r sp : Int) : Int := if 64 ≤ sp then s (99 + 3 * r) else s (99 + 3 * r + 1)
theorem wsp_bd {s : Int → Int} {r : Int} (sp : Int) (hD : SD s) (h1 : 0 ≤ r) (h2 : r < s 2) : (1 ≤ wsp s r sp ∧ wsp s r sp ≤ 3) ∧ 1 ≤ hsp s r sp ∧ hsp s r sp ≤ 3 := by
  have := (hD.2.2 r h1 h2).1
  unfold wsp hsp
  split <;> omega
def blkZ (w hh : Int) : Int64 := foldI (fun i b => b ||| ((((1 : Int64) <<< ((iI w).toInt64 &&& 63)) - (1 : Int64)) <<< ((iI (8 * i)).toInt64 &&& 63))) hh.toNat 0 0
theorem zb_blk0 {w k : Int} (h0 : 0 ≤ w) (h8 : w ≤ 8) (h1 : 0 ≤ k) (h2 : k < 64) : ∀ d : Nat, d ≤ 8 → (zb (foldI (fun i b => b ||| ((((1 : Int64) <<< ((iI w).toInt64 &&& 63)) - (1 : Int64)) <<< ((iI (8 * i)).toInt64 &&& 63))) d 0 0) k ↔ k / 8 < d ∧ k % 8 < w) := by
  intro d
  induction d with
  | zero =>
    intro _
    refine ⟨fun q => absurd q (zb_0 k), fun q => ?_⟩
    have := q.1
    omega
  | succ d ih =>
    intro hd
    rw [foldI_snoc, zb_or, ih (by omega), zb_shl _ (by omega) (by omega) h1 h2]
    constructor
    · rintro (q | ⟨q1, q2⟩)
      · omega
      · rw [zb_line h0 h8 (by omega) (by omega)] at q2
        omega
    · intro q
      by_cases c : k / 8 < d
      · exact Or.inl ⟨c, q.2⟩
      · refine Or.inr ⟨by omega, ?_⟩
        rw [zb_line h0 h8 (by omega) (by omega)]
        omega
theorem zb_blk {w hh k : Int} (h0 : 0 ≤ w) (h8 : w ≤ 8) (h0' : 0 ≤ hh) (h8' : hh ≤ 8) (h1 : 0 ≤ k) (h2 : k < 64) : zb (blkZ w hh) k ↔ k / 8 < hh ∧ k % 8 < w := by
  unfold blkZ
  rw [zb_blk0 h0 h8 h1 h2 _ (by omega)]
  omega
def cvZ (w hh c : Int) : Int64 := blkZ w hh <<< ((iI c).toInt64 &&& 63)
theorem zb_cv {w hh cx cy x y : Int} (h0 : 0 ≤ w) (h0' : 0 ≤ hh) (hx : 0 ≤ cx) (hx' : cx + w ≤ 8) (hy : 0 ≤ cy) (hy' : cy + hh ≤ 8) (hc : cx < 8) (hc' : cy < 8) (h1 : 0 ≤ x) (h2 : x < 8) (h3 : 0 ≤ y) (h4 : y < 8) : zb (cvZ w hh (8 * cy + cx)) (8 * y + x) ↔ cx ≤ x ∧ x < cx + w ∧ cy ≤ y ∧ y < cy + hh := by
  unfold cvZ
  rw [zb_shl _ (by omega) (by omega) (by omega) (by omega)]
  by_cases c : 8 * cy + cx ≤ 8 * y + x
  · rw [zb_blk h0 (by omega) h0' (by omega) (by omega) (by omega)]
    by_cases c2 : cx ≤ x
    · have e1 : (8 * y + x - (8 * cy + cx)) / 8 = y - cy := by omega
      have e2 : (8 * y + x - (8 * cy + cx)) % 8 = x - cx := by omega
      rw [e1, e2]
      omega
    · have e2 : (8 * y + x - (8 * cy + cx)) % 8 = 8 + x - cx := by omega
      rw [e2]
      omega
  · constructor
    · intro q; exact absurd q.1 c
    · intro q; omega
section CREAD
variable {h : AH} {la : Nat} {s : Int → Int} {post : AH → Int32 → Prop} {postJ : AH → Int64 → Prop} {a b c d r x y n sp sq w hh u hr : Int}
theorem c_hasCell (H : LB h la) (L : LR h la s) (hx : -2147483648 ≤ x) (hx' : x < 2147483648) (hy : -2147483648 ≤ y) (hy' : y < 2147483648) (hc : 0 ≤ s 0) (hc' : s 0 ≤ 8) (hw : 0 ≤ s 1) (hw' : s 1 ≤ 8) : wp_X1_hasCell h la (iI x) (iI y) post ↔ post h (bP (0 ≤ x ∧ x < s 0 ∧ 0 ≤ y ∧ y < s 1)) := by
  unfold wp_X1_hasCell
  simp (disch := omega) only [LB.o0 H, LB.p2 H, LB.o1 H, LB.l1 H, LB.p3 H, LB.o2 H, LB.l2 H, LB.p4 H, LB.o3 H, LB.l3 H, LB.p6 H, LB.o4 H, LB.l4 H, LB.p7 H, LB.o5 H, LB.l5 H, LB.p8 H, LB.o6 H, LB.l6 H, LB.p9 H, LB.o7 H, LB.l7 H, LB.p10 H, LB.o8 H, LB.l8 H, LB.p12 H, LB.o9 H, LB.l9 H, LB.p14 H, LB.o10 H, LB.p15 H, LB.o16 H, LB.q10_1 H, LB.o11 H, LB.l11 H, LB.q10_2 H, LB.o12 H, LB.l12 H, LB.q10_3 H, LB.o13 H, LB.l13 H, LB.q10_4 H, LB.o14 H, LB.l14 H, LB.q10_5 H, LB.o15 H, LB.l15 H, LB.q16_1 H, LB.o17 H, LB.l17 H, LB.q16_2 H, LB.o18 H, LB.l18 H, LB.q16_3 H, LB.o19 H, LB.l19 H, LB.q16_4 H, LB.o20 H, LB.l20 H, fd0, fd1, fd2, fd3, fd4, fd5, fd6, fd7, fd8, fd9, fd10, fd11, fd12, fd13, fd14, fd15, fd16, fd17, fd18, fd19, fd20, fd21, fd22, fd23, fd24, fd25, fd26, fd27, fd28, fd29, fd30, fd31, fd32, fd33, fd34, fd35, fd36, fd37, fd38, fd39, fd40, fd41, fd42, fd43, fd44, fd45, fd46, fd47, fd48, fd49, fd50, fd51, fd52, LR.c0 L, LR.c1 L, LR.c5 L, LR.c11 L, LR.q0 L, LR.w0 L, LR.td L, LR.wi L, LR.hi L, LR.dr L, LR.po L, LR.ro L, LR.rp L, LR.rq L, LR.rh L, LR.mo L, LR.wk L, LR.wh L, LR.wt L, LR.ww L, -Int.reduceToNat, -Int32.reduceToNatClampNeg, il0, il1, il2, il3, il4, il5, il6, il7, il8, il9, il10, il11, il12, il13, il14, il15, il16, il17, il18, il19, il20, il21, il22, il23, il24, il25, il26, il27, il28, il29, il30, il31, il32, il35, il36, il38, il40, il42, il43, il44, il45, il46, il47, il48, il49, il50, il51, il52, il57, il59, il60, il63, il64, il75, il80, il95, il96, il97, il98, il99, il100, il120, il122, il123, il127, il128, il135, il167, il175, il225, il249, il250, il255, il256, il360, il370, il384, il600, il700, il740, il900, il940, il1024, il1600, il4800, il64000, il125000, il262143, il1000000000, iI_toInt, iI_add, iI_sub, iI_mul, iI_neg, iI_lt, iI_le, iI_eq, iI_n, iI_in, iI_div, iI_mod, iI_shm, iI_and1, iI_and7, iI_and63, iI_shr3, iI_shr6, rd_I, ob, Option.some.injEq, exists_eq_left', exists_eq_left, true_and, and_true, forall_eq, forall_eq_apply_imp_iff, eq_self, true_or, or_true, bP_0, bP_0i, npP, bP_1i, bP_b, not_true_eq_false, not_false_eq_true, false_implies, true_implies, implies_true, Classical.not_not, and_self, cI post h, cI' post h]
  refine iff_of_eq (congrArg (post h) ?_)
  (try simp only [iteP])
  (repeat' split) <;> first | rfl | (exfalso; omega) | exact (bP_t (by (try simp only [onT, insT, ovX, ovY, overT, besT]); omega)).symm | exact (bP_f (by (try simp only [onT, insT, ovX, ovY, overT, besT]); omega)).symm | exact bP_c (by (try simp only [onT, insT, ovX, ovY, overT, besT]); omega) | (congr 1; omega)
theorem c_wideAt (H : LB h la) (L : LR h la s) (h1 : 0 ≤ r) (h2 : r < s 2) (h8 : s 2 ≤ 8) (h3 : 0 ≤ sp) (h4 : sp < 128) : wp_X1_wideAt h la (iI r) (iI sp) post ↔ post h (iI (wsp s r sp)) := by
  unfold wp_X1_wideAt wsp
  simp (disch := omega) only [LB.o0 H, LB.p2 H, LB.o1 H, LB.l1 H, LB.p3 H, LB.o2 H, LB.l2 H, LB.p4 H, LB.o3 H, LB.l3 H, LB.p6 H, LB.o4 H, LB.l4 H, LB.p7 H, LB.o5 H, LB.l5 H, LB.p8 H, LB.o6 H, LB.l6 H, LB.p9 H, LB.o7 H, LB.l7 H, LB.p10 H, LB.o8 H, LB.l8 H, LB.p12 H, LB.o9 H, LB.l9 H, LB.p14 H, LB.o10 H, LB.p15 H, LB.o16 H, LB.q10_1 H, LB.o11 H, LB.l11 H, LB.q10_2 H, LB.o12 H, LB.l12 H, LB.q10_3 H, LB.o13 H, LB.l13 H, LB.q10_4 H, LB.o14 H, LB.l14 H, LB.q10_5 H, LB.o15 H, LB.l15 H, LB.q16_1 H, LB.o17 H, LB.l17 H, LB.q16_2 H, LB.o18 H, LB.l18 H, LB.q16_3 H, LB.o19 H, LB.l19 H, LB.q16_4 H, LB.o20 H, LB.l20 H, fd0, fd1, fd2, fd3, fd4, fd5, fd6, fd7, fd8, fd9, fd10, fd11, fd12, fd13, fd14, fd15, fd16, fd17, fd18, fd19, fd20, fd21, fd22, fd23, fd24, fd25, fd26, fd27, fd28, fd29, fd30, fd31, fd32, fd33, fd34, fd35, fd36, fd37, fd38, fd39, fd40, fd41, fd42, fd43, fd44, fd45, fd46, fd47, fd48, fd49, fd50, fd51, fd52, LR.c0 L, LR.c1 L, LR.c5 L, LR.c11 L, LR.q0 L, LR.w0 L, LR.td L, LR.wi L, LR.hi L, LR.dr L, LR.po L, LR.ro L, LR.rp L, LR.rq L, LR.rh L, LR.mo L, LR.wk L, LR.wh L, LR.wt L, LR.ww L, -Int.reduceToNat, -Int32.reduceToNatClampNeg, il0, il1, il2, il3, il4, il5, il6, il7, il8, il9, il10, il11, il12, il13, il14, il15, il16, il17, il18, il19, il20, il21, il22, il23, il24, il25, il26, il27, il28, il29, il30, il31, il32, il35, il36, il38, il40, il42, il43, il44, il45, il46, il47, il48, il49, il50, il51, il52, il57, il59, il60, il63, il64, il75, il80, il95, il96, il97, il98, il99, il100, il120, il122, il123, il127, il128, il135, il167, il175, il225, il249, il250, il255, il256, il360, il370, il384, il600, il700, il740, il900, il940, il1024, il1600, il4800, il64000, il125000, il262143, il1000000000, iI_toInt, iI_add, iI_sub, iI_mul, iI_neg, iI_lt, iI_le, iI_eq, iI_n, iI_in, iI_div, iI_mod, iI_shm, iI_and1, iI_and7, iI_and63, iI_shr3, iI_shr6, rd_I, ob, Option.some.injEq, exists_eq_left', exists_eq_left, true_and, and_true, forall_eq, forall_eq_apply_imp_iff, eq_self, true_or, or_true, bP_0, bP_0i, npP, bP_1i, bP_b, not_true_eq_false, not_false_eq_true, false_implies, true_implies, implies_true, Classical.not_not, and_self, cI post h, cI' post h]
  refine iff_of_eq (congrArg (post h) ?_)
  (try simp only [iteP])
  (repeat' split) <;> first | rfl | (exfalso; omega) | exact (bP_t (by (try simp only [onT, insT, ovX, ovY, overT, besT]); omega)).symm | exact (bP_f (by (try simp only [onT, insT, ovX, ovY, overT, besT]); omega)).symm | exact bP_c (by (try simp only [onT, insT, ovX, ovY, overT, besT]); omega) | (congr 1; omega)
theorem c_highAt (H : LB h la) (L : LR h la s) (h1 : 0 ≤ r) (h2 : r < s 2) (h8 : s 2 ≤ 8) (h3 : 0 ≤ sp) (h4 : sp < 128) : wp_X1_highAt h la (iI r) (iI sp) post ↔ post h (iI (hsp s r sp)) := by
  unfold wp_X1_highAt hsp
  simp (disch := omega) only [LB.o0 H, LB.p2 H, LB.o1 H, LB.l1 H, LB.p3 H, LB.o2 H, LB.l2 H, LB.p4 H, LB.o3 H, LB.l3 H, LB.p6 H, LB.o4 H, LB.l4 H, LB.p7 H, LB.o5 H, LB.l5 H, LB.p8 H, LB.o6 H, LB.l6 H, LB.p9 H, LB.o7 H, LB.l7 H, LB.p10 H, LB.o8 H, LB.l8 H, LB.p12 H, LB.o9 H, LB.l9 H, LB.p14 H, LB.o10 H, LB.p15 H, LB.o16 H, LB.q10_1 H, LB.o11 H, LB.l11 H, LB.q10_2 H, LB.o12 H, LB.l12 H, LB.q10_3 H, LB.o13 H, LB.l13 H, LB.q10_4 H, LB.o14 H, LB.l14 H, LB.q10_5 H, LB.o15 H, LB.l15 H, LB.q16_1 H, LB.o17 H, LB.l17 H, LB.q16_2 H, LB.o18 H, LB.l18 H, LB.q16_3 H, LB.o19 H, LB.l19 H, LB.q16_4 H, LB.o20 H, LB.l20 H, fd0, fd1, fd2, fd3, fd4, fd5, fd6, fd7, fd8, fd9, fd10, fd11, fd12, fd13, fd14, fd15, fd16, fd17, fd18, fd19, fd20, fd21, fd22, fd23, fd24, fd25, fd26, fd27, fd28, fd29, fd30, fd31, fd32, fd33, fd34, fd35, fd36, fd37, fd38, fd39, fd40, fd41, fd42, fd43, fd44, fd45, fd46, fd47, fd48, fd49, fd50, fd51, fd52, LR.c0 L, LR.c1 L, LR.c5 L, LR.c11 L, LR.q0 L, LR.w0 L, LR.td L, LR.wi L, LR.hi L, LR.dr L, LR.po L, LR.ro L, LR.rp L, LR.rq L, LR.rh L, LR.mo L, LR.wk L, LR.wh L, LR.wt L, LR.ww L, -Int.reduceToNat, -Int32.reduceToNatClampNeg, il0, il1, il2, il3, il4, il5, il6, il7, il8, il9, il10, il11, il12, il13, il14, il15, il16, il17, il18, il19, il20, il21, il22, il23, il24, il25, il26, il27, il28, il29, il30, il31, il32, il35, il36, il38, il40, il42, il43, il44, il45, il46, il47, il48, il49, il50, il51, il52, il57, il59, il60, il63, il64, il75, il80, il95, il96, il97, il98, il99, il100, il120, il122, il123, il127, il128, il135, il167, il175, il225, il249, il250, il255, il256, il360, il370, il384, il600, il700, il740, il900, il940, il1024, il1600, il4800, il64000, il125000, il262143, il1000000000, iI_toInt, iI_add, iI_sub, iI_mul, iI_neg, iI_lt, iI_le, iI_eq, iI_n, iI_in, iI_div, iI_mod, iI_shm, iI_and1, iI_and7, iI_and63, iI_shr3, iI_shr6, rd_I, ob, Option.some.injEq, exists_eq_left', exists_eq_left, true_and, and_true, forall_eq, forall_eq_apply_imp_iff, eq_self, true_or, or_true, bP_0, bP_0i, npP, bP_1i, bP_b, not_true_eq_false, not_false_eq_true, false_implies, true_implies, implies_true, Classical.not_not, and_self, cI post h, cI' post h]
  refine iff_of_eq (congrArg (post h) ?_)
  (try simp only [iteP])
  (repeat' split) <;> first | rfl | (exfalso; omega) | exact (bP_t (by (try simp only [onT, insT, ovX, ovY, overT, besT]); omega)).symm | exact (bP_f (by (try simp only [onT, insT, ovX, ovY, overT, besT]); omega)).symm | exact bP_c (by (try simp only [onT, insT, ovX, ovY, overT, besT]); omega) | (congr 1; omega)
theorem c_spotOf (H : LB h la) (L : LR h la s) (hS : SBd s) (h1 : 0 ≤ r) (h2 : r < s 2) (h8 : s 2 ≤ 8) (h3 : 0 ≤ c) (h4 : c < 64) (h5 : 0 ≤ u) (h6 : u ≤ 1) : wp_X1_spotOf h la (iI r) (iI c) (iI u) post ↔ post h (iI (if s (99 + 3 * r) = s (99 + 3 * r + 1) then c else c + 64 * u)) := by
  have s1 := hS (99 + 3 * r) (by omega) (by omega)
  have s2 := hS (99 + 3 * r + 1) (by omega) (by omega)
  unfold wp_X1_spotOf
  simp (disch := omega) only [LB.o0 H, LB.p2 H, LB.o1 H, LB.l1 H, LB.p3 H, LB.o2 H, LB.l2 H, LB.p4 H, LB.o3 H, LB.l3 H, LB.p6 H, LB.o4 H, LB.l4 H, LB.p7 H, LB.o5 H, LB.l5 H, LB.p8 H, LB.o6 H, LB.l6 H, LB.p9 H, LB.o7 H, LB.l7 H, LB.p10 H, LB.o8 H, LB.l8 H, LB.p12 H, LB.o9 H, LB.l9 H, LB.p14 H, LB.o10 H, LB.p15 H, LB.o16 H, LB.q10_1 H, LB.o11 H, LB.l11 H, LB.q10_2 H, LB.o12 H, LB.l12 H, LB.q10_3 H, LB.o13 H, LB.l13 H, LB.q10_4 H, LB.o14 H, LB.l14 H, LB.q10_5 H, LB.o15 H, LB.l15 H, LB.q16_1 H, LB.o17 H, LB.l17 H, LB.q16_2 H, LB.o18 H, LB.l18 H, LB.q16_3 H, LB.o19 H, LB.l19 H, LB.q16_4 H, LB.o20 H, LB.l20 H, fd0, fd1, fd2, fd3, fd4, fd5, fd6, fd7, fd8, fd9, fd10, fd11, fd12, fd13, fd14, fd15, fd16, fd17, fd18, fd19, fd20, fd21, fd22, fd23, fd24, fd25, fd26, fd27, fd28, fd29, fd30, fd31, fd32, fd33, fd34, fd35, fd36, fd37, fd38, fd39, fd40, fd41, fd42, fd43, fd44, fd45, fd46, fd47, fd48, fd49, fd50, fd51, fd52, LR.c0 L, LR.c1 L, LR.c5 L, LR.c11 L, LR.q0 L, LR.w0 L, LR.td L, LR.wi L, LR.hi L, LR.dr L, LR.po L, LR.ro L, LR.rp L, LR.rq L, LR.rh L, LR.mo L, LR.wk L, LR.wh L, LR.wt L, LR.ww L, -Int.reduceToNat, -Int32.reduceToNatClampNeg, il0, il1, il2, il3, il4, il5, il6, il7, il8, il9, il10, il11, il12, il13, il14, il15, il16, il17, il18, il19, il20, il21, il22, il23, il24, il25, il26, il27, il28, il29, il30, il31, il32, il35, il36, il38, il40, il42, il43, il44, il45, il46, il47, il48, il49, il50, il51, il52, il57, il59, il60, il63, il64, il75, il80, il95, il96, il97, il98, il99, il100, il120, il122, il123, il127, il128, il135, il167, il175, il225, il249, il250, il255, il256, il360, il370, il384, il600, il700, il740, il900, il940, il1024, il1600, il4800, il64000, il125000, il262143, il1000000000, iI_toInt, iI_add, iI_sub, iI_mul, iI_neg, iI_lt, iI_le, iI_eq, iI_n, iI_in, iI_div, iI_mod, iI_shm, iI_and1, iI_and7, iI_and63, iI_shr3, iI_shr6, rd_I, ob, Option.some.injEq, exists_eq_left', exists_eq_left, true_and, and_true, forall_eq, forall_eq_apply_imp_iff, eq_self, true_or, or_true, bP_0, bP_0i, npP, bP_1i, bP_b, not_true_eq_false, not_false_eq_true, false_implies, true_implies, implies_true, Classical.not_not, and_self, cI post h, cI' post h]
  refine iff_of_eq (congrArg (post h) ?_)
  (try simp only [iteP])
  (repeat' split) <;> first | rfl | (exfalso; omega) | exact (bP_t (by (try simp only [onT, insT, ovX, ovY, overT, besT]); omega)).symm | exact (bP_f (by (try simp only [onT, insT, ovX, ovY, overT, besT]); omega)).symm | exact bP_c (by (try simp only [onT, insT, ovX, ovY, overT, besT]); omega) | (congr 1; omega)
theorem c_holds (H : LB h la) (L : LR h la s) (hS : SBd s) (hD : SD s) (h1 : 0 ≤ r) (h2 : r < s 2) (h8 : s 2 ≤ 8) (h3 : 0 ≤ sp) (h4 : sp < 128) : wp_X1_holds h la (iI r) (iI sp) post ↔ post h (bP (sp % 8 + wsp s r sp ≤ s 0 ∧ sp / 8 % 8 + hsp s r sp ≤ s 1)) := by
  have s0 := hS 0 (by omega) (by omega)
  have s1 := hS 1 (by omega) (by omega)
  have wb := wsp_bd sp hD h1 h2
  unfold wp_X1_holds
  simp (disch := omega) only [LB.o0 H, LB.p2 H, LB.o1 H, LB.l1 H, LB.p3 H, LB.o2 H, LB.l2 H, LB.p4 H, LB.o3 H, LB.l3 H, LB.p6 H, LB.o4 H, LB.l4 H, LB.p7 H, LB.o5 H, LB.l5 H, LB.p8 H, LB.o6 H, LB.l6 H, LB.p9 H, LB.o7 H, LB.l7 H, LB.p10 H, LB.o8 H, LB.l8 H, LB.p12 H, LB.o9 H, LB.l9 H, LB.p14 H, LB.o10 H, LB.p15 H, LB.o16 H, LB.q10_1 H, LB.o11 H, LB.l11 H, LB.q10_2 H, LB.o12 H, LB.l12 H, LB.q10_3 H, LB.o13 H, LB.l13 H, LB.q10_4 H, LB.o14 H, LB.l14 H, LB.q10_5 H, LB.o15 H, LB.l15 H, LB.q16_1 H, LB.o17 H, LB.l17 H, LB.q16_2 H, LB.o18 H, LB.l18 H, LB.q16_3 H, LB.o19 H, LB.l19 H, LB.q16_4 H, LB.o20 H, LB.l20 H, fd0, fd1, fd2, fd3, fd4, fd5, fd6, fd7, fd8, fd9, fd10, fd11, fd12, fd13, fd14, fd15, fd16, fd17, fd18, fd19, fd20, fd21, fd22, fd23, fd24, fd25, fd26, fd27, fd28, fd29, fd30, fd31, fd32, fd33, fd34, fd35, fd36, fd37, fd38, fd39, fd40, fd41, fd42, fd43, fd44, fd45, fd46, fd47, fd48, fd49, fd50, fd51, fd52, LR.c0 L, LR.c1 L, LR.c5 L, LR.c11 L, LR.q0 L, LR.w0 L, LR.td L, LR.wi L, LR.hi L, LR.dr L, LR.po L, LR.ro L, LR.rp L, LR.rq L, LR.rh L, LR.mo L, LR.wk L, LR.wh L, LR.wt L, LR.ww L, -Int.reduceToNat, -Int32.reduceToNatClampNeg, il0, il1, il2, il3, il4, il5, il6, il7, il8, il9, il10, il11, il12, il13, il14, il15, il16, il17, il18, il19, il20, il21, il22, il23, il24, il25, il26, il27, il28, il29, il30, il31, il32, il35, il36, il38, il40, il42, il43, il44, il45, il46, il47, il48, il49, il50, il51, il52, il57, il59, il60, il63, il64, il75, il80, il95, il96, il97, il98, il99, il100, il120, il122, il123, il127, il128, il135, il167, il175, il225, il249, il250, il255, il256, il360, il370, il384, il600, il700, il740, il900, il940, il1024, il1600, il4800, il64000, il125000, il262143, il1000000000, iI_toInt, iI_add, iI_sub, iI_mul, iI_neg, iI_lt, iI_le, iI_eq, iI_n, iI_in, iI_div, iI_mod, iI_shm, iI_and1, iI_and7, iI_and63, iI_shr3, iI_shr6, rd_I, ob, Option.some.injEq, exists_eq_left', exists_eq_left, true_and, and_true, forall_eq, forall_eq_apply_imp_iff, eq_self, true_or, or_true, bP_0, bP_0i, npP, bP_1i, bP_b, not_true_eq_false, not_false_eq_true, false_implies, true_implies, implies_true, Classical.not_not, and_self, cI post h, cI' post h, c_wideAt H L h1 h2 h8, c_highAt H L h1 h2 h8]
  refine iff_of_eq (congrArg (post h) ?_)
  (try simp only [iteP])
  (repeat' split) <;> first | rfl | (exfalso; omega) | exact (bP_t (by (try simp only [onT, insT, ovX, ovY, overT, besT]); omega)).symm | exact (bP_f (by (try simp only [onT, insT, ovX, ovY, overT, besT]); omega)).symm | exact bP_c (by (try simp only [onT, insT, ovX, ovY, overT, besT]); omega) | (congr 1; omega)
theorem c_blockOf (h1 : 0 ≤ w) (h2 : w ≤ 8) (h3 : 0 ≤ hh) (h4 : hh ≤ 8) : wp_X11_blockOf h (iI w) (iI hh) postJ ↔ postJ h (blkZ w hh) := by
  unfold wp_X11_blockOf
  rw [fqJ]
  have key := lp_fold (W := fun n (b : Int64) i => wl_X11_blockOf_12 postJ n h (iI hh) (((1 : Int64) <<< ((iI w).toInt64 &&& 63)) - (1 : Int64)) b (iI i)) (E := fun b => postJ h b) (f := fun i b => b ||| ((((1 : Int64) <<< ((iI w).toInt64 &&& 63)) - (1 : Int64)) <<< ((iI (8 * i)).toInt64 &&& 63))) (lo := 0) (hi := hh) (fun _ _ => True) (by omega) (fun b i q => q) (fun n b i i1 i2 _ => ?_) (fun _ _ _ _ _ => trivial) (fun n b _ => ?_) 0 trivial
  · rw [Int.sub_zero] at key
    exact key
  · show wb_X11_blockOf_12 (wl_X11_blockOf_12 postJ n) h (iI hh) _ b (iI i) postJ ↔ _
    unfold wb_X11_blockOf_12
    simp (disch := omega) only [-Int.reduceToNat, -Int32.reduceToNatClampNeg, il0, il1, il2, il3, il4, il5, il6, il7, il8, il9, il10, il11, il12, il13, il14, il15, il16, il17, il18, il19, il20, il21, il22, il23, il24, il25, il26, il27, il28, il29, il30, il31, il32, il35, il36, il38, il40, il42, il43, il44, il45, il46, il47, il48, il49, il50, il51, il52, il57, il59, il60, il63, il64, il75, il80, il95, il96, il97, il98, il99, il100, il120, il122, il123, il127, il128, il135, il167, il175, il225, il249, il250, il255, il256, il360, il370, il384, il600, il700, il740, il900, il940, il1024, il1600, il4800, il64000, il125000, il262143, il1000000000, iI_toInt, iI_add, iI_sub, iI_mul, iI_neg, iI_lt, iI_le, iI_eq, iI_n, iI_in, iI_div, iI_mod, iI_shm, iI_and1, iI_and7, iI_and63, iI_shr3, iI_shr6, rd_I, ob, Option.some.injEq, exists_eq_left', exists_eq_left, true_and, and_true, fqI, fqJ, eq_self, true_or, or_true, bP_0, bP_0i, npP, bP_1i, bP_b, not_true_eq_false, not_false_eq_true, false_implies, true_implies, implies_true, Classical.not_not, and_self, cP, cP', ite_n, ite_T, ite_F, ite_t, ite_f]
  · show wb_X11_blockOf_12 (wl_X11_blockOf_12 postJ n) h (iI hh) _ b (iI _) postJ ↔ _
    unfold wb_X11_blockOf_12
    simp (disch := omega) only [-Int.reduceToNat, -Int32.reduceToNatClampNeg, il0, il1, il2, il3, il4, il5, il6, il7, il8, il9, il10, il11, il12, il13, il14, il15, il16, il17, il18, il19, il20, il21, il22, il23, il24, il25, il26, il27, il28, il29, il30, il31, il32, il35, il36, il38, il40, il42, il43, il44, il45, il46, il47, il48, il49, il50, il51, il52, il57, il59, il60, il63, il64, il75, il80, il95, il96, il97, il98, il99, il100, il120, il122, il123, il127, il128, il135, il167, il175, il225, il249, il250, il255, il256, il360, il370, il384, il600, il700, il740, il900, il940, il1024, il1600, il4800, il64000, il125000, il262143, il1000000000, iI_toInt, iI_add, iI_sub, iI_mul, iI_neg, iI_lt, iI_le, iI_eq, iI_n, iI_in, iI_div, iI_mod, iI_shm, iI_and1, iI_and7, iI_and63, iI_shr3, iI_shr6, rd_I, ob, Option.some.injEq, exists_eq_left', exists_eq_left, true_and, and_true, fqI, fqJ, eq_self, true_or, or_true, bP_0, bP_0i, npP, bP_1i, bP_b, not_true_eq_false, not_false_eq_true, false_implies, true_implies, implies_true, Classical.not_not, and_self, cP, cP', ite_n, ite_T, ite_F, ite_t, ite_f]
theorem c_coverAt (H : LB h la) (L : LR h la s) (hD : SD s) (h1 : 0 ≤ r) (h2 : r < s 2) (h8 : s 2 ≤ 8) (h3 : 0 ≤ sp) (h4 : sp < 128) : wp_X1_coverAt h la (iI r) (iI sp) postJ ↔ postJ h (cvZ (wsp s r sp) (hsp s r sp) (sp % 64)) := by
  have wb := wsp_bd sp hD h1 h2
  unfold wp_X1_coverAt cvZ
  simp (disch := omega) only [LB.o0 H, LB.p2 H, LB.o1 H, LB.l1 H, LB.p3 H, LB.o2 H, LB.l2 H, LB.p4 H, LB.o3 H, LB.l3 H, LB.p6 H, LB.o4 H, LB.l4 H, LB.p7 H, LB.o5 H, LB.l5 H, LB.p8 H, LB.o6 H, LB.l6 H, LB.p9 H, LB.o7 H, LB.l7 H, LB.p10 H, LB.o8 H, LB.l8 H, LB.p12 H, LB.o9 H, LB.l9 H, LB.p14 H, LB.o10 H, LB.p15 H, LB.o16 H, LB.q10_1 H, LB.o11 H, LB.l11 H, LB.q10_2 H, LB.o12 H, LB.l12 H, LB.q10_3 H, LB.o13 H, LB.l13 H, LB.q10_4 H, LB.o14 H, LB.l14 H, LB.q10_5 H, LB.o15 H, LB.l15 H, LB.q16_1 H, LB.o17 H, LB.l17 H, LB.q16_2 H, LB.o18 H, LB.l18 H, LB.q16_3 H, LB.o19 H, LB.l19 H, LB.q16_4 H, LB.o20 H, LB.l20 H, fd0, fd1, fd2, fd3, fd4, fd5, fd6, fd7, fd8, fd9, fd10, fd11, fd12, fd13, fd14, fd15, fd16, fd17, fd18, fd19, fd20, fd21, fd22, fd23, fd24, fd25, fd26, fd27, fd28, fd29, fd30, fd31, fd32, fd33, fd34, fd35, fd36, fd37, fd38, fd39, fd40, fd41, fd42, fd43, fd44, fd45, fd46, fd47, fd48, fd49, fd50, fd51, fd52, LR.c0 L, LR.c1 L, LR.c5 L, LR.c11 L, LR.q0 L, LR.w0 L, LR.td L, LR.wi L, LR.hi L, LR.dr L, LR.po L, LR.ro L, LR.rp L, LR.rq L, LR.rh L, LR.mo L, LR.wk L, LR.wh L, LR.wt L, LR.ww L, -Int.reduceToNat, -Int32.reduceToNatClampNeg, il0, il1, il2, il3, il4, il5, il6, il7, il8, il9, il10, il11, il12, il13, il14, il15, il16, il17, il18, il19, il20, il21, il22, il23, il24, il25, il26, il27, il28, il29, il30, il31, il32, il35, il36, il38, il40, il42, il43, il44, il45, il46, il47, il48, il49, il50, il51, il52, il57, il59, il60, il63, il64, il75, il80, il95, il96, il97, il98, il99, il100, il120, il122, il123, il127, il128, il135, il167, il175, il225, il249, il250, il255, il256, il360, il370, il384, il600, il700, il740, il900, il940, il1024, il1600, il4800, il64000, il125000, il262143, il1000000000, iI_toInt, iI_add, iI_sub, iI_mul, iI_neg, iI_lt, iI_le, iI_eq, iI_n, iI_in, iI_div, iI_mod, iI_shm, iI_and1, iI_and7, iI_and63, iI_shr3, iI_shr6, rd_I, ob, Option.some.injEq, exists_eq_left', exists_eq_left, true_and, and_true, forall_eq, forall_eq_apply_imp_iff, eq_self, true_or, or_true, bP_0, bP_0i, npP, bP_1i, bP_b, not_true_eq_false, not_false_eq_true, false_implies, true_implies, implies_true, Classical.not_not, and_self, c_wideAt H L h1 h2 h8, c_highAt H L h1 h2 h8, c_blockOf]
end CREAD
