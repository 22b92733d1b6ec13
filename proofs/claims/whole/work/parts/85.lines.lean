/-! what the LINES of a LAGOON's text say: FAULT, its place; else the lagoon (as the model numbers it), the names, the hours told, the next sign -/
abbrev RT : Type := Int × Int × (Int → Int) × (Int → List Int) × Int × Int
def bdR (k a : Int) : RT := (k, a, fun _ => 0, fun _ => [], 0, 0)
def okR (s : Int → Int) (N : Int → List Int) (td p : Int) : RT := (0, 0, s, N, td, p)
section SPC
variable (T : Int → Int) (n m : Int)
noncomputable def nuS (lo hi p : Int) (ok : Int → Int → RT) : RT := iteP (tkK T n m p = 2) (iteP (lo ≤ tkV T n m p ∧ tkV T n m p ≤ hi) (ok (tkV T n m p) (tkE T n m p)) (bdR 2 (tkA T n m p))) (bdR 1 (tkA T n m p))
noncomputable def naS (p : Int) (ok : List Int → Int → RT) : RT := iteP (tkK T n m p = 1 ∧ kwI (tkW T n m p) = -1) (ok (tkW T n m p) (tkE T n m p)) (bdR 1 (tkA T n m p))
noncomputable def raS (N : Int → List Int) (c p : Int) (ok : Int → Int → RT) : RT := naS T n m p fun l q => iteP (fnd N c l = -1) (bdR 3 (tkA T n m p)) (ok (fnd N c l) q)
noncomputable def siS (p : Int) (ok : Int → Int → RT) : RT := iteP (tkK T n m p = 1 ∧ 11 ≤ kwI (tkW T n m p) ∧ kwI (tkW T n m p) ≤ 14) (ok (kwI (tkW T n m p) - 11) (tkE T n m p)) (bdR 1 (tkA T n m p))
noncomputable def ceS (c d p : Int) (ok : Int → Int → Int → Int → RT) : RT := nuS T n m 0 (c - 1) p fun x q => nuS T n m 0 (d - 1) q fun y q' => ok x y q q'
def rowU (s : Int → Int) (a k : Int) : Int → Int := fun i => if i = 0 then k else if i = 1 then s 1 + 1 else if 11 + 8 * s 1 ≤ i ∧ i < 11 + 8 * s 1 + k then T (a + (i - 11 - 8 * s 1)) - 48 else s i
def tdB (td k : Int) : Prop := (iI td >>> iI k) &&& iI 1 ≠ iI 0
def tdU (td k : Int) : Int := (iI td ||| iI 1 <<< iI k).toInt
noncomputable def sRow (s : Int → Int) (N : Int → List Int) (td a p : Int) : RT := iteP (s 1 < 8) (iteP (tkK T n m p = 2) (iteP (0 < s 1 ∧ tkS T n m p ≠ s 0) (bdR 2 (tkA T n m p)) (okR (rowU T s (tkA T n m p) (tkS T n m p)) N td (tkE T n m p))) (bdR 1 (tkA T n m p))) (bdR 4 a)
noncomputable def sTide (s : Int → Int) (N : Int → List Int) (td p : Int) : RT := nuS T n m 0 23 p fun hr q => iteP (tdB td hr) (bdR 3 (tkA T n m p)) (nuS T n m 0 9 q fun v q' => okR (updT s (75 + hr) v) N (tdU td hr) q')
def rafU (s : Int → Int) (w hh dr x y : Int) : Int → Int := updT (updT (updT (updT (updT (updT (updT s (99 + 3 * s 2) w) (99 + 3 * s 2 + 1) hh) (99 + 3 * s 2 + 2) dr) (225 + 3 * s 2) x) (225 + 3 * s 2 + 1) y) (225 + 3 * s 2 + 2) 0) 2 (s 2 + 1)
def ovN (s : Int → Int) (o w hh x y : Int) : Prop := (x < s (225 + 3 * o) + s (99 + 3 * o) ∧ s (225 + 3 * o) < x + w) ∧ y < s (225 + 3 * o + 1) + s (99 + 3 * o + 1) ∧ s (225 + 3 * o + 1) < y + hh
noncomputable def updN (N : Int → List Int) (i : Int) (l : List Int) : Int → List Int := fun j => if j = i then l else N j
noncomputable def sRaft (s : Int → Int) (N : Int → List Int) (td a p : Int) : RT := iteP (s 2 < 8) (naS T n m p fun l q0 => iteP (fnd N (s 2) l = -1) (nuS T n m 1 3 q0 fun w q1 => nuS T n m 1 3 q1 fun hh q2 => nuS T n m 0 9 q2 fun dr q3 => ceS T n m (s 0) (s 1) q3 fun x y q4 q5 => iteP (x + w ≤ s 0 ∧ y + hh ≤ s 1) (iteP (∃ o, 0 ≤ o ∧ o < s 2 ∧ ovN s o w hh x y) (bdR 3 (tkA T n m q4)) (okR (rafU s w hh dr x y) (updN N (s 2) l) td q5)) (bdR 2 (tkA T n m q4))) (bdR 3 (tkA T n m p))) (bdR 4 a)
def polU (s : Int → Int) (x y : Int) : Int → Int := updT (updT (updT s (123 + 2 * s 3) x) (123 + 2 * s 3 + 1) y) 3 (s 3 + 1)
noncomputable def sPole (s : Int → Int) (N : Int → List Int) (td a p : Int) : RT := iteP (s 3 < 6) (ceS T n m (s 0) (s 1) p fun x y q1 q2 => iteP (∃ k, 0 ≤ k ∧ k < s 3 ∧ s (123 + 2 * k) = x ∧ s (123 + 2 * k + 1) = y) (bdR 3 (tkA T n m q1)) (okR (polU s x y) N td q2)) (bdR 4 a)
def ropU (s : Int → Int) (a b re ho : Int) : Int → Int := updT (updT (updT (updT (updT s (135 + 4 * s 4) a) (135 + 4 * s 4 + 1) b) (135 + 4 * s 4 + 2) re) (135 + 4 * s 4 + 3) ho) 4 (s 4 + 1)
def ropd (s : Int → Int) (a b : Int) : Prop := ∃ k, 0 ≤ k ∧ k < s 4 ∧ ((s (135 + 4 * k) = a ∧ s (135 + 4 * k + 1) = b) ∨ (s (135 + 4 * k) = b ∧ s (135 + 4 * k + 1) = a))
noncomputable def sRope (s : Int → Int) (N : Int → List Int) (td a p : Int) : RT := iteP (s 4 < 8) (raS T n m N (s 2) p fun ra q1 => raS T n m N (s 2) q1 fun rb q2 => iteP (ra = rb ∨ ropd s ra rb) (bdR 3 (tkA T n m q1)) (nuS T n m (gapT (tS s) (zC s) ra rb) 9 q2 fun re q3 => nuS T n m 1 99 q3 fun ho q4 => okR (ropU s ra rb re ho) N td q4)) (bdR 4 a)
noncomputable def sMoor (s : Int → Int) (N : Int → List Int) (td p : Int) : RT := raS T n m N (s 2) p fun r q1 => iteP (s (167 + r) = 0) (nuS T n m 1 99 q1 fun v q2 => okR (updT s (167 + r) v) N td q2) (bdR 3 (tkA T n m p))
def wanU (s : Int → Int) (wh a b c v : Int) : Int → Int := updT (updT (updT (updT (updT (updT s (175 + 5 * s 5) wh) (175 + 5 * s 5 + 1) a) (175 + 5 * s 5 + 2) b) (175 + 5 * s 5 + 3) c) (175 + 5 * s 5 + 4) v) 5 (s 5 + 1)
noncomputable def sPair (s : Int → Int) (N : Int → List Int) (td wh a p : Int) : RT := iteP (s 5 < 10) (raS T n m N (s 2) p fun ra q1 => raS T n m N (s 2) q1 fun rb q2 => iteP (ra = rb) (bdR 3 (tkA T n m q1)) (nuS T n m 1 99 q2 fun v q3 => okR (wanU s wh ra rb 0 v) N td q3)) (bdR 4 a)
noncomputable def sSun (s : Int → Int) (N : Int → List Int) (td a p : Int) : RT := iteP (s 5 < 10) (raS T n m N (s 2) p fun ra q1 => siS T n m q1 fun sd q2 => nuS T n m 1 99 q2 fun v q3 => okR (wanU s 2 ra sd 0 v) N td q3) (bdR 4 a)
noncomputable def sLies (s : Int → Int) (N : Int → List Int) (td a p : Int) : RT := iteP (s 5 < 10) (raS T n m N (s 2) p fun ra q1 => ceS T n m (s 0) (s 1) q1 fun x y _ q2 => nuS T n m 1 99 q2 fun v q3 => okR (wanU s 3 ra x y v) N td q3) (bdR 4 a)
def squU (s : Int → Int) (x y w hh : Int) : Int → Int := updT (updT (updT (updT s 6 x) 7 y) 8 w) 9 hh
noncomputable def sSqua (s : Int → Int) (N : Int → List Int) (td a p : Int) : RT := iteP (s 8 = 0) (ceS T n m (s 0) (s 1) p fun x y _ q2 => nuS T n m 1 8 q2 fun w q3 => nuS T n m 1 8 q3 fun hh q4 => iteP (x + w ≤ s 0 ∧ y + hh ≤ s 1) (okR (squU s x y w hh) N td q4) (bdR 2 (tkA T n m q3))) (bdR 3 a)
/-- the LINE that a word begins -/
noncomputable def liS (w : Int) (s : Int → Int) (N : Int → List Int) (td a p : Int) : RT :=
  iteP (w = 0) (sRow T n m s N td a p) <| iteP (w = 1) (sTide T n m s N td p) <| iteP (w = 2) (sRaft T n m s N td a p) <| iteP (w = 3) (sPole T n m s N td a p) <| iteP (w = 4) (sRope T n m s N td a p) <| iteP (w = 5) (sMoor T n m s N td p) <| iteP (w = 6) (sPair T n m s N td 0 a p) <| iteP (w = 7) (sPair T n m s N td 1 a p) <| iteP (w = 8) (sSun T n m s N td a p) <| iteP (w = 9) (sLies T n m s N td a p) <| iteP (w = 10) (sSqua T n m s N td a p) (bdR 1 a)
/-- .. with the STOP that ends it -/
noncomputable def lnS (w : Int) (s : Int → Int) (N : Int → List Int) (td a p : Int) : RT := iteP ((liS T n m w s N td a p).1 = 0) (iteP (tkK T n m (liS T n m w s N td a p).2.2.2.2.2 = 3) ((0, 0, (liS T n m w s N td a p).2.2.1, (liS T n m w s N td a p).2.2.2.1, (liS T n m w s N td a p).2.2.2.2.1, tkE T n m (liS T n m w s N td a p).2.2.2.2.2) : RT) (bdR 1 (tkA T n m (liS T n m w s N td a p).2.2.2.2.2))) (liS T n m w s N td a p)
/-- the word that a TOKEN is -/
noncomputable def wdI (p : Int) : Int := iteP (tkK T n m p = 1) (kwI (tkW T n m p)) (-1)
/-- all LINES; the last number counts them -/
noncomputable def lsS : Nat → (Int → Int) → (Int → List Int) → Int → Int → Int → RT
  | 0, _, _, _, _, _ => bdR 1 0
  | d + 1, s, N, td, p, c => iteP (tkK T n m p = 4) (iteP (n ≤ m) (okR s N td c) (bdR 1 (tkA T n m p))) (iteP ((lnS T n m (wdI T n m p) s N td (tkA T n m p) (tkE T n m p)).1 = 0) (lsS d (lnS T n m (wdI T n m p) s N td (tkA T n m p) (tkE T n m p)).2.2.1 (lnS T n m (wdI T n m p) s N td (tkA T n m p) (tkE T n m p)).2.2.2.1 (lnS T n m (wdI T n m p) s N td (tkA T n m p) (tkE T n m p)).2.2.2.2.1 (lnS T n m (wdI T n m p) s N td (tkA T n m p) (tkE T n m p)).2.2.2.2.2 (c + 1)) (lnS T n m (wdI T n m p) s N td (tkA T n m p) (tkE T n m p)))
end SPC
/-! the class's lagoon while it is read -/
def blk (fr : Nat) : List Nat := [fr, fr + 1, fr + 2, fr + 3, fr + 4, fr + 5, fr + 6, fr + 7, fr + 8, fr + 9, fr + 10, fr + 11, fr + 12, fr + 13, fr + 14, fr + 15, fr + 16, fr + 17, fr + 18, fr + 19, fr + 20]
theorem mem_blk {fr a : Nat} : a ∈ blk fr ↔ fr ≤ a ∧ a ≤ fr + 20 := by
  unfold blk
  simp only [List.mem_cons, List.not_mem_nil, or_false]
  omega
def CL (h : AH) (fr : Nat) (s : Int → Int) (N : Int → List Int) (td : Int) : Prop := (LB h fr) ∧ (LR h fr s) ∧ (NmL h fr (s 2) N) ∧ (∀ r, 0 ≤ r → r < s 2 → rd h (fr + 8) r = 8 * s (225 + 3 * r + 1) + s (225 + 3 * r)) ∧ (aP h 2 12 = some fr) ∧ (rd h 2 13 = td) ∧ (fr = 5 ∨ fr = 32)
theorem CL.H {h : AH} {fr : Nat} {s : Int → Int} {N : Int → List Int} {td : Int} (R : CL h fr s N td) : LB h fr := R.1
theorem CL.L {h : AH} {fr : Nat} {s : Int → Int} {N : Int → List Int} {td : Int} (R : CL h fr s N td) : LR h fr s := R.2.1
theorem CL.M {h : AH} {fr : Nat} {s : Int → Int} {N : Int → List Int} {td : Int} (R : CL h fr s N td) : NmL h fr (s 2) N := R.2.2.1
theorem CL.st {h : AH} {fr : Nat} {s : Int → Int} {N : Int → List Int} {td : Int} (R : CL h fr s N td) : ∀ r, 0 ≤ r → r < s 2 → rd h (fr + 8) r = 8 * s (225 + 3 * r + 1) + s (225 + 3 * r) := R.2.2.2.1
theorem CL.ft {h : AH} {fr : Nat} {s : Int → Int} {N : Int → List Int} {td : Int} (R : CL h fr s N td) : aP h 2 12 = some fr := R.2.2.2.2.1
theorem CL.tt {h : AH} {fr : Nat} {s : Int → Int} {N : Int → List Int} {td : Int} (R : CL h fr s N td) : rd h 2 13 = td := R.2.2.2.2.2.1
theorem CL.fb {h : AH} {fr : Nat} {s : Int → Int} {N : Int → List Int} {td : Int} (R : CL h fr s N td) : fr = 5 ∨ fr = 32 := R.2.2.2.2.2.2
def BA (s : Int → Int) (td : Int) : Prop := (GS s) ∧ (WLi s) ∧ (SqOk s) ∧ (VT s (tS s) (zC s)) ∧ (∀ k, 0 ≤ k → k < s 4 → gapT (tS s) (zC s) (s (135 + 4 * k)) (s (135 + 4 * k + 1)) ≤ s (135 + 4 * k + 2)) ∧ (∀ k, 0 ≤ k → k < s 4 → s (135 + 4 * k + 2) ≤ 9) ∧ (∀ r, 0 ≤ r → r < s 2 → s (225 + 3 * r + 2) = 0) ∧ (s 8 = 0 ↔ s 9 = 0) ∧ (∀ i, 249 ≤ i → s i = 0) ∧ (∀ i, 175 + 5 * s 5 ≤ i → i < 225 → s i = 0) ∧ (-2147483648 ≤ td ∧ td < 2147483648) ∧ (RUq s)
theorem BA.gs {s : Int → Int} {td : Int} (R : BA s td) : GS s := R.1
theorem BA.wl {s : Int → Int} {td : Int} (R : BA s td) : WLi s := R.2.1
theorem BA.sq {s : Int → Int} {td : Int} (R : BA s td) : SqOk s := R.2.2.1
theorem BA.vt {s : Int → Int} {td : Int} (R : BA s td) : VT s (tS s) (zC s) := R.2.2.2.1
theorem BA.rp {s : Int → Int} {td : Int} (R : BA s td) : ∀ k, 0 ≤ k → k < s 4 → gapT (tS s) (zC s) (s (135 + 4 * k)) (s (135 + 4 * k + 1)) ≤ s (135 + 4 * k + 2) := R.2.2.2.2.1
theorem BA.rq {s : Int → Int} {td : Int} (R : BA s td) : ∀ k, 0 ≤ k → k < s 4 → s (135 + 4 * k + 2) ≤ 9 := R.2.2.2.2.2.1
theorem BA.t0 {s : Int → Int} {td : Int} (R : BA s td) : ∀ r, 0 ≤ r → r < s 2 → s (225 + 3 * r + 2) = 0 := R.2.2.2.2.2.2.1
theorem BA.s8 {s : Int → Int} {td : Int} (R : BA s td) : s 8 = 0 ↔ s 9 = 0 := R.2.2.2.2.2.2.2.1
theorem BA.pl {s : Int → Int} {td : Int} (R : BA s td) : ∀ i, 249 ≤ i → s i = 0 := R.2.2.2.2.2.2.2.2.1
theorem BA.wz {s : Int → Int} {td : Int} (R : BA s td) : ∀ i, 175 + 5 * s 5 ≤ i → i < 225 → s i = 0 := R.2.2.2.2.2.2.2.2.2.1
theorem BA.tb {s : Int → Int} {td : Int} (R : BA s td) : -2147483648 ≤ td ∧ td < 2147483648 := R.2.2.2.2.2.2.2.2.2.2.1
theorem BA.ru {s : Int → Int} {td : Int} (R : BA s td) : RUq s := R.2.2.2.2.2.2.2.2.2.2.2
def CO (T : Int → Int) (n m : Int) (fr : Nat) (h h' : AH) (r : RT) : Prop := Fr (2 :: blk fr) (blk fr) [] h h' ∧ ((r.1 ≠ 0 ∧ ∃ p a, RD T n m h' 2 2 3 r.1 r.2.1 p a) ∨ (r.1 = 0 ∧ ∃ fa a, RD T n m h' 2 2 3 0 fa r.2.2.2.2.2 a ∧ CL h' fr r.2.2.1 r.2.2.2.1 r.2.2.2.2.1))
section LNS
variable {h h1 h2 h' h0 : AH} {fr : Nat} {postV : AH → Prop} {post : AH → Int32 → Prop} {a b c d r x y n m p f fa q e k i lo hi v w td : Int} {T s : Int → Int} {l : List Int} {N : Int → List Int}
theorem CO.bd {k a0 : Int} (F : Fr (2 :: blk fr) (blk fr) [] h h') (hk : k ≠ 0) (R : RD T n m h' 2 2 3 k a0 p a) : CO T n m fr h h' (bdR k a0) := ⟨F, Or.inl ⟨hk, p, a, R⟩⟩
theorem CO.ok (F : Fr (2 :: blk fr) (blk fr) [] h h') (R : RD T n m h' 2 2 3 0 fa p a) (C : CL h' fr s N td) : CO T n m fr h h' (okR s N td p) := ⟨F, Or.inr ⟨rfl, fa, a, R, C⟩⟩
theorem tfF.b2 (t : tfF h h' 2) : Fr (2 :: blk fr) (blk fr) [] h h' := t.1.mono (fun a ha => by rw [List.mem_singleton] at ha; rw [ha]; exact List.mem_cons_self) (by simp) (by simp)
theorem Fr.bI {j : Nat} (hj : fr ≤ j ∧ j ≤ fr + 20) (F : Fr [j] [] [] h h') : Fr (2 :: blk fr) (blk fr) [] h h' := F.mono (fun a ha => by rw [List.mem_singleton] at ha; rw [ha]; exact List.mem_cons_of_mem _ (mem_blk.mpr hj)) (by simp) (by simp)
theorem Fr.b2 (F : Fr [2] [] [] h h') : Fr (2 :: blk fr) (blk fr) [] h h' := F.mono (fun a ha => by rw [List.mem_singleton] at ha; rw [ha]; exact List.mem_cons_self) (by simp) (by simp)
theorem CL.tf (C : CL h fr s N td) (t : tfF h h' 2) : CL h' fr s N td := by
  obtain ⟨H, L, M, st, ft, tt, fb⟩ := C
  have F := t.1
  have row : ∀ j, j ≤ 20 → rd h' (fr + j) = rd h (fr + j) := fun j hj => F.row (by simp; omega)
  refine ⟨LB.same F.1 F.2.2.1 F.2.2.2.1 F.aPe H, L.fr F (fun j hj => by simp; omega) (fun j hj => by simp), fun r r0 r1 => by rw [row 4 (by omega)]; exact M r r0 r1, fun r r0 r1 => by rw [row 8 (by omega)]; exact st r r0 r1, by rw [F.aPe]; exact ft, by rw [t.2 13 (by decide)]; exact tt, fb⟩
end LNS
