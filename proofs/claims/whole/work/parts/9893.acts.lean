/-! what the ACTS of a PLAN's text say: FAULT, its place; else the ACTS (what, who, by turns), how many -/
def upA (A : Int → Int) (c how who : Int) : Int → Int := updT (updT A (2 * c + 1) who) (2 * c) how
section ACS
variable (T : Int → Int) (n m : Int) (N : Int → List Int) (rc : Int)
noncomputable def acS (w : Int) (A : Int → Int) (c a p : Int) : RT := iteP (w = 15 ∨ w = 16 ∨ w = 17) (iteP (c < 60) (iteP (w = 17) (nuS T n m 1 96 p fun v q => okR (upA A c 5 v) N (c + 1) q) (raS T n m N rc p fun r q => iteP (w = 15) (siS T n m q fun sd q' => okR (upA A c sd r) N (c + 1) q') (okR (upA A c 4 r) N (c + 1) q))) (bdR 4 a)) (bdR 1 a)
noncomputable def anS (w : Int) (A : Int → Int) (c a p : Int) : RT := iteP ((acS T n m N rc w A c a p).1 = 0) (iteP (tkK T n m (acS T n m N rc w A c a p).2.2.2.2.2 = 3) ((0, 0, (acS T n m N rc w A c a p).2.2.1, (acS T n m N rc w A c a p).2.2.2.1, (acS T n m N rc w A c a p).2.2.2.2.1, tkE T n m (acS T n m N rc w A c a p).2.2.2.2.2) : RT) (bdR 1 (tkA T n m (acS T n m N rc w A c a p).2.2.2.2.2))) (acS T n m N rc w A c a p)
noncomputable def psS : Nat → (Int → Int) → Int → Int → RT
  | 0, _, _, _ => bdR 1 0
  | d + 1, A, c, p => iteP (tkK T n m p = 4) (iteP (n ≤ m) (okR A N c 0) (bdR 1 (tkA T n m p))) (iteP ((anS T n m N rc (wdI T n m p) A c (tkA T n m p) (tkE T n m p)).1 = 0) (psS d (anS T n m N rc (wdI T n m p) A c (tkA T n m p) (tkE T n m p)).2.2.1 (anS T n m N rc (wdI T n m p) A c (tkA T n m p) (tkE T n m p)).2.2.2.2.1 (anS T n m N rc (wdI T n m p) A c (tkA T n m p) (tkE T n m p)).2.2.2.2.2) (anS T n m N rc (wdI T n m p) A c (tkA T n m p) (tkE T n m p)))
end ACS
section AKP
variable {a b c d r x y n m p q e k i lo hi v w p0 rc how who : Int} {T s A : Int → Int} {l : List Int} {N : Int → List Int}
theorem upA_h : upA A c how who (2 * c) = how := updT_s _ _ _
theorem upA_w : upA A c how who (2 * c + 1) = who := by unfold upA; rw [updT_n (by omega), updT_s]
theorem upA_n (h : i < 2 * c ∨ 2 * c + 1 < i) : upA A c how who i = A i := by unfold upA; rw [updT_n (by omega), updT_n (by omega)]
/-- ACTS that may be -/
def AOk (A : Int → Int) (c rc : Int) : Prop := ∀ k, 0 ≤ k → k < c → (0 ≤ A (2 * k) ∧ A (2 * k) ≤ 5) ∧ (A (2 * k) ≤ 4 → 0 ≤ A (2 * k + 1) ∧ A (2 * k + 1) < rc) ∧ (A (2 * k) = 5 → 1 ≤ A (2 * k + 1) ∧ A (2 * k + 1) ≤ 96)
theorem AOk.up (H : AOk A c rc) (h5 : 0 ≤ how ∧ how ≤ 5) (h1 : how ≤ 4 → 0 ≤ who ∧ who < rc) (h2 : how = 5 → 1 ≤ who ∧ who ≤ 96) : AOk (upA A c how who) (c + 1) rc := fun k k0 k1 => by
  by_cases ck : k = c
  · rw [ck, upA_h, upA_w]; exact ⟨h5, h1, h2⟩
  · rw [upA_n (by omega), upA_n (by omega)]; exact H k k0 (by omega)
def KA (n p0 c rc : Int) (r : RT) : Prop := r.1 = 0 → AOk r.2.2.1 (c + 1) rc ∧ r.2.2.2.2.1 = c + 1 ∧ c < 60 ∧ p0 ≤ r.2.2.2.2.2 ∧ r.2.2.2.2.2 ≤ n
theorem KAb : ∀ k a, k ≠ 0 → KA n p0 c rc (bdR k a) := fun _ _ h u => absurd u h
theorem KAo (H : AOk A (c + 1) rc) (h6 : c < 60) (h1 : p0 ≤ p) (h2 : p ≤ n) : KA n p0 c rc (okR A N (c + 1) p) := fun _ => ⟨H, rfl, h6, h1, h2⟩
theorem ac_ok (H : AOk A c rc) (hr : 0 ≤ rc) (hp : 0 ≤ p ∧ p ≤ n) (hm : 0 ≤ m) : KA n p c rc (acS T n m N rc w A c a p) := by
  unfold acS
  refine it_Q (fun _ => it_Q (fun h6 => it_Q (fun _ => ?_) fun _ => ?_) fun _ => KAb _ _ (by omega)) fun _ => KAb _ _ (by omega)
  · exact nu_Q KAb hp hm fun v q v0 v1 q0 q1 => KAo (H.up (by omega) (fun z => by omega) (fun _ => ⟨v0, v1⟩)) h6 q0 q1
  · exact ra_Q KAb hp hm hr fun r q r0 r1 q0 q1 => it_Q (fun _ => si_Q KAb (by omega) hm fun sd q' s0 s1 q2 q3 => KAo (H.up (by omega) (fun _ => ⟨r0, r1⟩) (fun z => by omega)) h6 (by omega) q3) fun _ => KAo (H.up (by omega) (fun _ => ⟨r0, r1⟩) (fun z => by omega)) h6 q0 q1
theorem an_ok (H : AOk A c rc) (hr : 0 ≤ rc) (hp : 0 ≤ p ∧ p ≤ n) (hm : 0 ≤ m) : KA n (p + 1) c rc (anS T n m N rc w A c a p) := by
  have L := ac_ok (T := T) (N := N) (w := w) (a := a) H hr hp hm
  unfold anS
  refine it_Q (fun u => it_Q (fun k3 _ => ?_) fun _ => KAb _ _ (by omega)) fun u v => absurd v u
  obtain ⟨L1, L2, L3, L4, L5⟩ := L u
  have e := tkE_gt (T := T) (m := m) ⟨by omega, L5⟩ (Or.inr k3)
  have b := tk_bd (T := T) (p := (acS T n m N rc w A c a p).2.2.2.2.2) ⟨by omega, L5⟩ hm
  have g : p + 1 ≤ tkE T n m (acS T n m N rc w A c a p).2.2.2.2.2 := by omega
  exact ⟨L1, L2, L3, g, b.2.1.2⟩
theorem ps_ok : ∀ (dd : Nat) (A : Int → Int) (c p : Int), AOk A c rc → 0 ≤ c → c ≤ 60 → 0 ≤ rc → 0 ≤ p ∧ p ≤ n → 0 ≤ m → (psS T n m N rc dd A c p).1 = 0 → AOk (psS T n m N rc dd A c p).2.2.1 (psS T n m N rc dd A c p).2.2.2.2.1 rc ∧ 0 ≤ (psS T n m N rc dd A c p).2.2.2.2.1 ∧ (psS T n m N rc dd A c p).2.2.2.2.1 ≤ 60 := by
  intro dd
  induction dd with
  | zero => intro A c p H c0 c1 hr hp hm u; exact absurd u (by show ¬ (1 : Int) = 0; omega)
  | succ dd ih =>
    intro A c p H c0 c1 hr hp hm
    have tb := tk_bd (T := T) hp hm
    have L := an_ok (T := T) (N := N) (w := wdI T n m p) (a := tkA T n m p) (p := tkE T n m p) H hr ⟨by omega, tb.2.1.2⟩ hm
    rw [psS]
    by_cases k4 : tkK T n m p = 4
    · rw [ite_t k4]
      by_cases k5 : n ≤ m
      · rw [ite_t k5]; exact fun _ => ⟨H, c0, c1⟩
      · rw [ite_f k5]; exact fun u => absurd u (by show ¬ (1 : Int) = 0; omega)
    · rw [ite_f k4]
      by_cases k5 : (anS T n m N rc (wdI T n m p) A c (tkA T n m p) (tkE T n m p)).1 = 0
      · rw [ite_t k5]
        obtain ⟨L1, L2, L3, L4, L5⟩ := L k5
        exact ih _ _ _ (by rw [L2]; exact L1) (by omega) (by omega) hr ⟨by omega, L5⟩ hm
      · rw [ite_f k5]; exact fun u => absurd u k5
end AKP
