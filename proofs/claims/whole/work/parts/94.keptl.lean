/-! every LINE that is right keeps what holds, and goes on -/
def NmK (s : Int → Int) (N : Int → List Int) : Prop := ∀ r, 0 ≤ r → r < s 2 → Ltr (N r) ∧ (N r).length ≤ 6
def KP (n p0 : Int) (r : RT) : Prop := r.1 = 0 → BA r.2.2.1 r.2.2.2.2.1 ∧ NmK r.2.2.1 r.2.2.2.1 ∧ p0 ≤ r.2.2.2.2.2 ∧ r.2.2.2.2.2 ≤ n
section KPL
variable {a b c d r x y n m p f fa q e k i lo hi v w hh dr td sp ra rb re ho p0 : Int} {T s s' : Int → Int} {l : List Int} {N : Int → List Int} {Q : RT → Prop}
theorem it_Q {A B : RT} {P : Prop} (h1 : P → Q A) (h2 : ¬ P → Q B) : Q (iteP P A B) := by
  by_cases c : P
  · rw [ite_t c]; exact h1 c
  · rw [ite_f c]; exact h2 c
theorem nu_Q {ok : Int → Int → RT} (Qb : ∀ k a, k ≠ 0 → Q (bdR k a)) (hp : 0 ≤ p ∧ p ≤ n) (hm : 0 ≤ m) (H : ∀ v q, lo ≤ v → v ≤ hi → p ≤ q → q ≤ n → Q (ok v q)) : Q (nuS T n m lo hi p ok) := by
  have b := tk_bd (T := T) hp hm
  exact it_Q (fun _ => it_Q (fun u => H _ _ u.1 u.2 b.2.1.1 b.2.1.2) fun _ => Qb _ _ (by omega)) fun _ => Qb _ _ (by omega)
theorem na_Q {ok : List Int → Int → RT} (Qb : ∀ k a, k ≠ 0 → Q (bdR k a)) (hp : 0 ≤ p ∧ p ≤ n) (hm : 0 ≤ m) (H : ∀ l q, Ltr l → l.length ≤ 6 → p ≤ q → q ≤ n → Q (ok l q)) : Q (naS T n m p ok) := by
  have b := tk_bd (T := T) hp hm
  exact it_Q (fun u => H _ _ (tkW_ok hp u.1).1 (tkW_ok hp u.1).2 b.2.1.1 b.2.1.2) fun _ => Qb _ _ (by omega)
theorem ra_Q {ok : Int → Int → RT} (Qb : ∀ k a, k ≠ 0 → Q (bdR k a)) (hp : 0 ≤ p ∧ p ≤ n) (hm : 0 ≤ m) (hc : 0 ≤ c) (H : ∀ r q, 0 ≤ r → r < c → p ≤ q → q ≤ n → Q (ok r q)) : Q (raS T n m N c p ok) :=
  na_Q Qb hp hm fun l q _ _ q1 q2 => it_Q (fun _ => Qb _ _ (by omega)) fun u => H _ _ (by have := fnd_bd (N := N) (l := l) hc; omega) (by have := fnd_bd (N := N) (l := l) hc; omega) q1 q2
theorem si_Q {ok : Int → Int → RT} (Qb : ∀ k a, k ≠ 0 → Q (bdR k a)) (hp : 0 ≤ p ∧ p ≤ n) (hm : 0 ≤ m) (H : ∀ v q, 0 ≤ v → v ≤ 3 → p ≤ q → q ≤ n → Q (ok v q)) : Q (siS T n m p ok) := by
  have b := tk_bd (T := T) hp hm
  exact it_Q (fun u => H _ _ (by omega) (by omega) b.2.1.1 b.2.1.2) fun _ => Qb _ _ (by omega)
theorem ce_Q {ok : Int → Int → Int → Int → RT} (Qb : ∀ k a, k ≠ 0 → Q (bdR k a)) (hp : 0 ≤ p ∧ p ≤ n) (hm : 0 ≤ m) (H : ∀ x y q1 q, 0 ≤ x → x < c → 0 ≤ y → y < d → p ≤ q → q ≤ n → Q (ok x y q1 q)) : Q (ceS T n m c d p ok) :=
  nu_Q Qb hp hm fun x q1 x0 x1 a1 a2 => nu_Q Qb (by omega) hm fun y q2 y0 y1 b1 b2 => H _ _ _ _ x0 (by omega) y0 (by omega) (by omega) b2
theorem KPb : ∀ k a, k ≠ 0 → KP n p0 (bdR k a) := fun _ _ h u => absurd u h
theorem KPo (B : BA s td) (M : NmK s N) (h1 : p0 ≤ p) (h2 : p ≤ n) : KP n p0 (okR s N td p) := fun _ => ⟨B, M, h1, h2⟩
theorem line_ok (B : BA s td) (M : NmK s N) (hp : 0 ≤ p ∧ p ≤ n) (hm : 0 ≤ m) : KP n p (liS T n m w s N td a p) := by
  obtain ⟨bb0, bb1, bb2, bb3, bb4, bb5⟩ := B.bds
  have M2 : ∀ {s'}, s' 2 = s 2 → NmK s' N := fun {s'} e r r0 r1 => M r r0 (by rw [← e]; exact r1)
  unfold liS
  refine it_Q (fun _ => ?_) fun _ => it_Q (fun _ => ?_) fun _ => it_Q (fun _ => ?_) fun _ => it_Q (fun _ => ?_) fun _ => it_Q (fun _ => ?_) fun _ => it_Q (fun _ => ?_) fun _ => it_Q (fun _ => ?_) fun _ => it_Q (fun _ => ?_) fun _ => it_Q (fun _ => ?_) fun _ => it_Q (fun _ => ?_) fun _ => it_Q (fun _ => ?_) fun _ => KPb _ _ (by omega)
  · refine it_Q (fun u => it_Q (fun k2 => it_Q (fun _ => KPb _ _ (by omega)) fun u2 => ?_) fun _ => KPb _ _ (by omega)) fun _ => KPb _ _ (by omega)
    obtain ⟨vv, vs, vd, ve, vw⟩ := tkV_ok hp k2
    have b := tk_bd (T := T) hp hm
    exact KPo (B.row u vs vd fun z => Classical.byContradiction fun z' => u2 ⟨z, z'⟩) (M2 (by unfold rowU; rw [if_neg (by omega), if_neg (by omega), if_neg (by omega)])) b.2.1.1 b.2.1.2
  · exact nu_Q KPb hp hm fun hr q h1 h2 q1 q2 => it_Q (fun _ => KPb _ _ (by omega)) fun _ => nu_Q KPb (by omega) hm fun v q' v1 v2 q3 q4 => KPo (B.tide (by omega) (by omega)) (M2 (updT_n (by omega))) (by omega) q4
  · refine it_Q (fun u => na_Q KPb hp hm fun l q0 l1 l2 a1 a2 => it_Q (fun _ => nu_Q KPb (by omega) hm fun w q1 w1 w2 b1 b2 => nu_Q KPb (by omega) hm fun hh q2 h1 h2 c1 c2 => nu_Q KPb (by omega) hm fun dr q3 d1 d2 e1 e2 => ce_Q KPb (by omega) hm fun x y q4 q5 x0 x1 y0 y1 f1 f2 => it_Q (fun z => it_Q (fun _ => KPb _ _ (by omega)) fun no => ?_) fun _ => KPb _ _ (by omega)) fun _ => KPb _ _ (by omega)) fun _ => KPb _ _ (by omega)
    refine KPo (B.raft u ⟨w1, w2⟩ ⟨h1, h2⟩ ⟨d1, d2⟩ (by omega) (by omega) fun o o0 o1 o2 => no ⟨o, o0, o1, o2⟩) (fun r r0 r1 => ?_) (by omega) f2
    unfold updN
    rw [show rafU s w hh dr x y 2 = s 2 + 1 by unfold rafU; rw [updT_s]] at r1
    by_cases cr : r = s 2
    · rw [if_pos cr]; exact ⟨l1, l2⟩
    · rw [if_neg cr]; exact M r r0 (by omega)
  · exact it_Q (fun u => ce_Q KPb hp hm fun x y q1 q2 x0 x1 y0 y1 a1 a2 => it_Q (fun _ => KPb _ _ (by omega)) fun _ => KPo (B.pole u (by omega) (by omega)) (M2 (by unfold polU; rw [updT_n (by omega), updT_n (by omega), updT_n (by omega)])) a1 a2) fun _ => KPb _ _ (by omega)
  · exact it_Q (fun u => ra_Q KPb hp hm bb2.1 fun ra q1 r0 r1 a1 a2 => ra_Q KPb (by omega) hm bb2.1 fun rb q2 s0 s1 b1 b2 => it_Q (fun _ => KPb _ _ (by omega)) fun ne => nu_Q KPb (by omega) hm fun re q3 e1 e2 c1 c2 => nu_Q KPb (by omega) hm fun ho q4 h1 h2 d1 d2 => KPo (B.rope u ⟨r0, r1⟩ ⟨s0, s1⟩ (fun z => ne (Or.inl z)) (fun z => ne (Or.inr z)) e1 ⟨by have := gap_bd B r0 r1 s0 s1; omega, e2⟩ ⟨h1, h2⟩) (M2 (by unfold ropU; rw [updT_n (by omega), updT_n (by omega), updT_n (by omega), updT_n (by omega), updT_n (by omega)])) (by omega) d2) fun _ => KPb _ _ (by omega)
  · exact ra_Q KPb hp hm bb2.1 fun r q1 r0 r1 a1 a2 => it_Q (fun _ => nu_Q KPb (by omega) hm fun v q2 v1 v2 b1 b2 => KPo (B.moor ⟨r0, r1⟩ ⟨v1, v2⟩) (M2 (updT_n (by omega))) (by omega) b2) fun _ => KPb _ _ (by omega)
  · exact it_Q (fun u => ra_Q KPb hp hm bb2.1 fun ra q1 r0 r1 a1 a2 => ra_Q KPb (by omega) hm bb2.1 fun rb q2 s0 s1 b1 b2 => it_Q (fun _ => KPb _ _ (by omega)) fun ne => nu_Q KPb (by omega) hm fun v q3 v1 v2 c1 c2 => KPo (B.want u (by omega) ⟨r0, r1⟩ ⟨v1, v2⟩ (by omega) (by omega) (fun _ => ⟨s1, fun z => ne z.symm⟩) (fun z => by omega) (fun z => by omega)) (M2 (by unfold wanU; rw [updT_n (by omega), updT_n (by omega), updT_n (by omega), updT_n (by omega), updT_n (by omega), updT_n (by omega)])) (by omega) c2) fun _ => KPb _ _ (by omega)
  · exact it_Q (fun u => ra_Q KPb hp hm bb2.1 fun ra q1 r0 r1 a1 a2 => ra_Q KPb (by omega) hm bb2.1 fun rb q2 s0 s1 b1 b2 => it_Q (fun _ => KPb _ _ (by omega)) fun ne => nu_Q KPb (by omega) hm fun v q3 v1 v2 c1 c2 => KPo (B.want u (by omega) ⟨r0, r1⟩ ⟨v1, v2⟩ (by omega) (by omega) (fun _ => ⟨s1, fun z => ne z.symm⟩) (fun z => by omega) (fun z => by omega)) (M2 (by unfold wanU; rw [updT_n (by omega), updT_n (by omega), updT_n (by omega), updT_n (by omega), updT_n (by omega), updT_n (by omega)])) (by omega) c2) fun _ => KPb _ _ (by omega)
  · exact it_Q (fun u => ra_Q KPb hp hm bb2.1 fun ra q1 r0 r1 a1 a2 => si_Q KPb (by omega) hm fun sd q2 s0 s1 b1 b2 => nu_Q KPb (by omega) hm fun v q3 v1 v2 c1 c2 => KPo (B.want u (by omega) ⟨r0, r1⟩ ⟨v1, v2⟩ (by omega) (by omega) (fun z => by omega) (fun _ => s1) (fun z => by omega)) (M2 (by unfold wanU; rw [updT_n (by omega), updT_n (by omega), updT_n (by omega), updT_n (by omega), updT_n (by omega), updT_n (by omega)])) (by omega) c2) fun _ => KPb _ _ (by omega)
  · exact it_Q (fun u => ra_Q KPb hp hm bb2.1 fun ra q1 r0 r1 a1 a2 => ce_Q KPb (by omega) hm fun x y q9 q2 x0 x1 y0 y1 b1 b2 => nu_Q KPb (by omega) hm fun v q3 v1 v2 c1 c2 => KPo (B.want u (by omega) ⟨r0, r1⟩ ⟨v1, v2⟩ (by omega) (by omega) (fun z => by omega) (fun z => by omega) (fun _ => by omega)) (M2 (by unfold wanU; rw [updT_n (by omega), updT_n (by omega), updT_n (by omega), updT_n (by omega), updT_n (by omega), updT_n (by omega)])) (by omega) c2) fun _ => KPb _ _ (by omega)
  · exact it_Q (fun u => ce_Q KPb hp hm fun x y q9 q2 x0 x1 y0 y1 b1 b2 => nu_Q KPb (by omega) hm fun w q3 w1 w2 c1 c2 => nu_Q KPb (by omega) hm fun hh q4 h1 h2 d1 d2 => it_Q (fun z => KPo (B.squ (by omega) ⟨w1, w2⟩ ⟨h1, h2⟩ z) (M2 (by unfold squU; rw [updT_n (by omega), updT_n (by omega), updT_n (by omega), updT_n (by omega)])) (by omega) d2) fun _ => KPb _ _ (by omega)) fun _ => KPb _ _ (by omega)
theorem tkE_gt (hp : 0 ≤ p ∧ p ≤ n) (hk : tkK T n m p = 1 ∨ tkK T n m p = 3) : p < tkE T n m p := by
  obtain ⟨⟨s1, s2⟩, s3, s4⟩ := skT_spec (T := T) (m := m) hp
  rcases hk with hk | hk
  · obtain ⟨a1, a2, a3, a4, a5⟩ := tk_run (Or.inl hk)
    have r := (rnE_spec (T := T) (q := skT T n m p) (n := n) (by omega)).1
    rw [a4]
    rcases rnK_cases (T := T) (q := skT T n m p) (e := rnE T n (skT T n m p)) with u | u | u <;> omega
  · unfold tkK at hk
    unfold tkE
    by_cases c : mnZ n m ≤ skT T n m p
    · rw [ite_t c] at hk; omega
    rw [ite_f c] at hk ⊢
    by_cases c1 : T (skT T n m p) = 59
    · rw [ite_t c1]; omega
    rw [ite_f c1] at hk
    rcases rnK_cases (T := T) (q := skT T n m p) (e := rnE T n (skT T n m p)) with u | u | u <;> omega
/-- a LINE with its STOP -/
theorem ln_ok (B : BA s td) (M : NmK s N) (hp : 0 ≤ p ∧ p ≤ n) (hm : 0 ≤ m) : KP n (p + 1) (lnS T n m w s N td a p) := by
  have L := line_ok (T := T) (w := w) (a := a) B M hp hm
  unfold lnS
  refine it_Q (fun u => it_Q (fun k3 _ => ?_) fun _ => KPb _ _ (by omega)) fun u v => absurd v u
  obtain ⟨L1, L2, L3, L4⟩ := L u
  have e := tkE_gt (T := T) (m := m) ⟨by omega, L4⟩ (Or.inr k3)
  have b := tk_bd (T := T) (p := (liS T n m w s N td a p).2.2.2.2.2) ⟨by omega, L4⟩ hm
  have g : p + 1 ≤ tkE T n m (liS T n m w s N td a p).2.2.2.2.2 := by omega
  exact ⟨L1, L2, g, b.2.1.2⟩
end KPL
