/-! storms: what hangs together, what is driven, ropes to be cut -/
def ropA (s : Int → Int) (k : Int) : Int := s (135 + 4 * k)
def ropB (s : Int → Int) (k : Int) : Int := s (135 + 4 * k + 1)
noncomputable def hgF (s : Int → Int) (cut : Int32) (k : Int) (g : Int32) : Int32 := iteP (¬ sb cut k ∧ (sb g (ropA s k) ∨ sb g (ropB s k))) (g ||| (iI 1 <<< iI (ropA s k) ||| iI 1 <<< iI (ropB s k))) g
noncomputable def hgP (s : Int → Int) (cut g : Int32) : Int32 := foldI (hgF s cut) (s 4).toNat 0 g
noncomputable def hgI (s : Int → Int) (cut : Int32) : Nat → Int32 → Int32
  | 0, g => g
  | n + 1, g => hgI s cut n (hgP s cut g)
theorem hgI_s {s : Int → Int} {cut : Int32} : ∀ (n : Nat) (g : Int32), hgI s cut (n + 1) g = hgP s cut (hgI s cut n g) := by
  intro n
  induction n with
  | zero => intro g; rfl
  | succ n ih => intro g; exact ih (hgP s cut g)
theorem hgI_fix {s : Int → Int} {cut g : Int32} (h : hgP s cut g = g) : ∀ n : Nat, hgI s cut n g = g := by
  intro n
  induction n with
  | zero => rfl
  | succ n ih => rw [hgI, h]; exact ih
theorem hgI_add {s : Int → Int} {cut : Int32} : ∀ (m n : Nat) (g : Int32), hgI s cut (n + m) g = hgI s cut m (hgI s cut n g) := by
  intro m n
  induction n with
  | zero => intro g; rw [Nat.zero_add]; rfl
  | succ n ih => intro g; rw [show n + 1 + m = (n + m) + 1 by omega, hgI, hgI]; exact ih _
/-- ropes that hang together already -/
noncomputable def jnN (s : Int → Int) (g : Int32) : Nat → Nat
  | 0 => 0
  | n + 1 => jnN s g n + iteP (sb g (ropA s n) ∧ sb g (ropB s n)) 1 0
theorem jnN_le {s : Int → Int} {g : Int32} : ∀ n, jnN s g n ≤ n := by
  intro n
  induction n with
  | zero => exact Nat.le_refl _
  | succ n ih =>
    rw [jnN]
    by_cases c : sb g (ropA s n) ∧ sb g (ropB s n)
    · rw [ite_t c]; omega
    · rw [ite_f c]; omega
theorem jnN_mono {s : Int → Int} {g g' : Int32} (h : ∀ k, sb g k → sb g' k) : ∀ n, jnN s g n ≤ jnN s g' n := by
  intro n
  induction n with
  | zero => exact Nat.le_refl _
  | succ n ih =>
    rw [jnN, jnN]
    by_cases c : sb g (ropA s n) ∧ sb g (ropB s n)
    · rw [ite_t c, ite_t ⟨h _ c.1, h _ c.2⟩]; omega
    · rw [ite_f c]; omega
theorem jnN_lt {s : Int → Int} {g g' : Int32} (h : ∀ k, sb g k → sb g' k) : ∀ (n : Nat) (j : Nat), j < n → ¬ (sb g (ropA s j) ∧ sb g (ropB s j)) → (sb g' (ropA s j) ∧ sb g' (ropB s j)) → jnN s g n < jnN s g' n := by
  intro n
  induction n with
  | zero => intro j hj; omega
  | succ n ih =>
    intro j hj h1 h2
    rw [jnN, jnN]
    by_cases e : j = n
    · subst e
      rw [ite_f h1, ite_t h2]
      have := jnN_mono (s := s) h j
      omega
    · have := ih j (by omega) h1 h2
      by_cases c : sb g (ropA s n) ∧ sb g (ropB s n)
      · rw [ite_t c, ite_t ⟨h _ c.1, h _ c.2⟩]; omega
      · rw [ite_f c]; omega
theorem jnN_all {s : Int → Int} {g : Int32} : ∀ (n : Nat), jnN s g n = n → ∀ j : Nat, j < n → sb g (ropA s j) ∧ sb g (ropB s j) := by
  intro n
  induction n with
  | zero => intro _ j hj; omega
  | succ n ih =>
    intro h j hj
    rw [jnN] at h
    have := jnN_le (s := s) (g := g) n
    by_cases c : sb g (ropA s n) ∧ sb g (ropB s n)
    · rw [ite_t c] at h
      by_cases e : j = n
      · subst e; exact c
      · exact ih (by omega) j (by omega)
    · rw [ite_f c] at h; omega
section HANG
variable {s : Int → Int} {cut g : Int32} {a b c d r x y k : Int}
theorem hgF_sub (k : Int) (j : Int) (h : sb g j) : sb (hgF s cut k g) j := by
  unfold hgF
  by_cases c : ¬ sb cut k ∧ (sb g (ropA s k) ∨ sb g (ropB s k))
  · rw [ite_t c, sb_or]; exact Or.inl h
  · rw [ite_f c]; exact h
theorem hgN_sub : ∀ (n : Nat) (g : Int32) (j : Int), sb g j → sb (foldI (hgF s cut) n 0 g) j := by
  intro n
  induction n with
  | zero => intro g j h; exact h
  | succ n ih => intro g j h; rw [foldI_snoc]; exact hgF_sub _ _ (ih g j h)
/-- an uncut rope of which one end is in: after the pass both are, or nothing changed -/
theorem hgN_ch (hK : ∀ k, 0 ≤ k → k < s 4 → (0 ≤ ropA s k ∧ ropA s k < 8) ∧ 0 ≤ ropB s k ∧ ropB s k < 8) : ∀ (n : Nat), (n : Int) ≤ s 4 → ∀ g : Int32, foldI (hgF s cut) n 0 g = g ∨ ∃ j : Nat, j < n ∧ ¬ (sb g (ropA s j) ∧ sb g (ropB s j)) ∧ sb (foldI (hgF s cut) n 0 g) (ropA s j) ∧ sb (foldI (hgF s cut) n 0 g) (ropB s j) := by
  intro n
  induction n with
  | zero => intro _ g; exact Or.inl rfl
  | succ n ih =>
    intro hn g
    rw [foldI_snoc, Int.zero_add]
    rcases ih (by omega) g with e | ⟨j, j1, j2, j3, j4⟩
    · rw [e]
      by_cases c : ¬ sb cut n ∧ (sb g (ropA s n) ∨ sb g (ropB s n))
      · obtain ⟨⟨a1, a2⟩, b1, b2⟩ := hK n (by omega) (by omega)
        by_cases d : sb g (ropA s n) ∧ sb g (ropB s n)
        · refine Or.inl ?_
          unfold hgF
          rw [ite_t c]
          refine sb_ext fun k k1 k2 => ?_
          rw [sb_or, sb_or, sb_one a1 (by omega) k1 k2, sb_one b1 (by omega) k1 k2]
          constructor
          · rintro (q | q | q)
            · exact q
            · rw [q]; exact d.1
            · rw [q]; exact d.2
          · exact Or.inl
        · refine Or.inr ⟨n, by omega, d, ?_, ?_⟩
          · unfold hgF
            rw [ite_t c, sb_or, sb_or, sb_one a1 (by omega) a1 (by omega)]
            exact Or.inr (Or.inl rfl)
          · unfold hgF
            rw [ite_t c, sb_or, sb_or, sb_one b1 (by omega) b1 (by omega) (i := ropB s n)]
            exact Or.inr (Or.inr rfl)
      · refine Or.inl ?_
        unfold hgF
        rw [ite_f c]
    · exact Or.inr ⟨j, by omega, j2, hgF_sub _ _ j3, hgF_sub _ _ j4⟩
theorem hgP_ch (h4 : 0 ≤ s 4) (hK : ∀ k, 0 ≤ k → k < s 4 → (0 ≤ ropA s k ∧ ropA s k < 8) ∧ 0 ≤ ropB s k ∧ ropB s k < 8) (g : Int32) : hgP s cut g = g ∨ jnN s g (s 4).toNat < jnN s (hgP s cut g) (s 4).toNat := by
  rcases hgN_ch (cut := cut) hK (s 4).toNat (by omega) g with e | ⟨j, j1, j2, j3, j4⟩
  · exact Or.inl e
  · exact Or.inr (jnN_lt (fun k hk => hgN_sub _ _ _ hk) _ j j1 j2 ⟨j3, j4⟩)
theorem hgI_grow (h4 : 0 ≤ s 4) (hK : ∀ k, 0 ≤ k → k < s 4 → (0 ≤ ropA s k ∧ ropA s k < 8) ∧ 0 ≤ ropB s k ∧ ropB s k < 8) (g : Int32) : ∀ n : Nat, hgP s cut (hgI s cut n g) = hgI s cut n g ∨ n ≤ jnN s (hgI s cut n g) (s 4).toNat := by
  intro n
  induction n with
  | zero => exact Or.inr (Nat.zero_le _)
  | succ n ih =>
    rw [hgI_s]
    rcases ih with e | e
    · refine Or.inl ?_
      rw [e, e]
    · rcases hgP_ch (cut := cut) h4 hK (hgI s cut n g) with e2 | e2
      · refine Or.inl ?_
        rw [e2, e2]
      · exact Or.inr (by omega)
/-- after as many passes as there are ropes nothing more comes -/
theorem hgI_end (h4 : 0 ≤ s 4) (hK : ∀ k, 0 ≤ k → k < s 4 → (0 ≤ ropA s k ∧ ropA s k < 8) ∧ 0 ≤ ropB s k ∧ ropB s k < 8) (g : Int32) : hgP s cut (hgI s cut (s 4).toNat g) = hgI s cut (s 4).toNat g := by
  rcases hgI_grow (cut := cut) h4 hK g (s 4).toNat with e | e
  · exact e
  · have le := jnN_le (s := s) (g := hgI s cut (s 4).toNat g) (s 4).toNat
    have all := jnN_all (s := s) (g := hgI s cut (s 4).toNat g) (s 4).toNat (by omega)
    rcases hgN_ch (cut := cut) hK (s 4).toNat (by omega) (hgI s cut (s 4).toNat g) with e | ⟨j, j1, j2, j3, j4⟩
    · exact e
    · exact absurd (all j j1) j2
end HANG
/-- the group -/
noncomputable def grp (s : Int → Int) (r : Int) (cut : Int32) : Int32 := hgI s cut (s 4).toNat (iI 1 <<< iI r)
def RK (s : Int → Int) : Prop := ∀ k, 0 ≤ k → k < s 4 → (0 ≤ ropA s k ∧ ropA s k < 8) ∧ 0 ≤ ropB s k ∧ ropB s k < 8
noncomputable def drvC (s : Int → Int) (G : Int32) : Int := foldI (sumF (sb G) (fun o => s (99 + 3 * o) * s (99 + 3 * o + 1))) (s 2).toNat 0 0
noncomputable def drvM (s : Int → Int) (G : Int32) : Int := foldI (sumF (sb G) (fun o => s (167 + o))) (s 2).toNat 0 0
def drvT (s : Int → Int) (r f : Int) (cut : Int32) : Prop := ¬ f * drvC s (grp s r cut) ≤ drvM s (grp s r cut)
theorem sum_bd {P : Int → Prop} {w : Int → Int} {m : Int} (hm : 0 ≤ m) : ∀ (d : Nat), (∀ i : Int, 0 ≤ i → i < d → 0 ≤ w i ∧ w i ≤ m) → 0 ≤ foldI (sumF P w) d 0 0 ∧ foldI (sumF P w) d 0 0 ≤ d * m := by
  intro d
  induction d with
  | zero => intro _; exact ⟨Int.le_refl _, by show (0 : Int) ≤ _; omega⟩
  | succ d ih =>
    intro h
    rw [foldI_snoc, Int.zero_add]
    have := ih fun i a b => h i a (by omega)
    have w0 := h d (by omega) (by omega)
    have e : ((d + 1 : Nat) : Int) * m = d * m + m := by rw [Int.natCast_add, Int.add_mul]; simp
    unfold sumF at this ⊢
    by_cases c : P d
    · rw [ite_t c]; omega
    · rw [ite_f c]; omega
section STORM
variable {h h1 h2 : AH} {i la fr qa ac : Nat} {postV : AH → Prop} {post : AH → Int32 → Prop} {a b c d r x y n sp sq w hh u hr how one k f : Int} {s t z T : Int → Int} {cut : Int32}
theorem GA.rk (hG : GA s) : RK s := by
  intro k k1 k2
  have := hG.1.1.2.2.2.2.2.2.2.1 k k1 k2
  have bd := hG.bd
  unfold ropA ropB
  omega
theorem pair_0 {g : Int32} (h1 : 0 ≤ a) (h2 : a < 8) (h3 : 0 ≤ b) (h4 : b < 8) : (g &&& (iI 1 <<< iI a ||| iI 1 <<< iI b) = iI 0) ↔ ¬ (sb g a ∨ sb g b) := by
  constructor
  · intro q p
    have z : ∀ k, ¬ sb (g &&& (iI 1 <<< iI a ||| iI 1 <<< iI b)) k := fun k => by rw [q]; exact sb_z k
    rcases p with p | p
    · apply z a
      rw [sb_and, sb_or, sb_one h1 (by omega) h1 (by omega)]
      exact ⟨p, Or.inl rfl⟩
    · apply z b
      rw [sb_and, sb_or, sb_one h3 (by omega) h3 (by omega) (i := b)]
      exact ⟨p, Or.inr rfl⟩
  · intro q
    refine sb_ext fun k k1 k2 => ⟨fun p => ?_, fun p => absurd p (sb_z k)⟩
    rw [sb_and, sb_or, sb_one h1 (by omega) k1 k2, sb_one h3 (by omega) k1 k2] at p
    rcases p with ⟨p1, p2 | p2⟩
    · subst p2; exact absurd (Or.inl p1) q
    · subst p2; exact absurd (Or.inr p1) q
theorem c_hanging (H : LB h la) (L : LR h la s) (hG : GA s) (h1 : 0 ≤ r) (h2 : r < s 2) (k : post h (grp s r cut)) : wp_X4_hangingWith h (la + 10) (iI r) cut post := by
  have bd := hG.bd
  have rk := hG.rk
  unfold wp_X4_hangingWith
  simp (disch := omega) only [-Int.reduceToNat, -Int32.reduceToNatClampNeg, il0, il1, il2, il3, il4, il5, il6, il7, il8, il9, il10, il11, il12, il13, il14, il15, il16, il17, il18, il19, il20, il21, il22, il23, il24, il25, il26, il27, il28, il29, il30, il31, il32, il35, il36, il38, il40, il42, il43, il44, il45, il46, il47, il48, il49, il50, il51, il52, il57, il59, il60, il63, il64, il75, il80, il95, il96, il97, il98, il99, il100, il120, il122, il123, il127, il128, il135, il167, il175, il225, il249, il250, il255, il256, il360, il370, il384, il600, il700, il740, il900, il940, il1024, il1600, il4800, il64000, il125000, il262143, il1000000000, iI_toInt, iI_add, iI_sub, iI_mul, iI_neg, iI_lt, iI_le, iI_eq, iI_n, iI_in, iI_div, iI_mod, iI_shm, iI_and1, iI_and7, iI_and63, iI_shr3, iI_shr6, rd_I, ob, Option.some.injEq, exists_eq_left', exists_eq_left, true_and, and_true, fqI, fqJ, eq_self, true_or, or_true, bP_0, bP_0i, npP, bP_1i, bP_b, not_true_eq_false, not_false_eq_true, false_implies, true_implies, implies_true, Classical.not_not, and_self]
  refine lf_for (W := fun n (g : Int32) p => wl_X4_hangingWith_7 post n h (la + 10) cut g (iI p)) (lo := 0) (hi := s 4) (fun p g => g = hgI s cut p.toNat (iI 1 <<< iI r)) (by omega) ?_ ?_ _ rfl
  · intro m g p p1 p2 hg kk
    show wb_X4_hangingWith_7 (wl_X4_hangingWith_7 post m) h (la + 10) cut g (iI p) post
    unfold wb_X4_hangingWith_7
    simp (disch := omega) only [LB.o0 H, LB.p2 H, LB.o1 H, LB.l1 H, LB.p3 H, LB.o2 H, LB.l2 H, LB.p4 H, LB.o3 H, LB.l3 H, LB.p6 H, LB.o4 H, LB.l4 H, LB.p7 H, LB.o5 H, LB.l5 H, LB.p8 H, LB.o6 H, LB.l6 H, LB.p9 H, LB.o7 H, LB.l7 H, LB.p10 H, LB.o8 H, LB.l8 H, LB.p12 H, LB.o9 H, LB.l9 H, LB.p14 H, LB.o10 H, LB.p15 H, LB.o16 H, LB.q10_1 H, LB.o11 H, LB.l11 H, LB.q10_2 H, LB.o12 H, LB.l12 H, LB.q10_3 H, LB.o13 H, LB.l13 H, LB.q10_4 H, LB.o14 H, LB.l14 H, LB.q10_5 H, LB.o15 H, LB.l15 H, LB.q16_1 H, LB.o17 H, LB.l17 H, LB.q16_2 H, LB.o18 H, LB.l18 H, LB.q16_3 H, LB.o19 H, LB.l19 H, LB.q16_4 H, LB.o20 H, LB.l20 H, fd0, fd1, fd2, fd3, fd4, fd5, fd6, fd7, fd8, fd9, fd10, fd11, fd12, fd13, fd14, fd15, fd16, fd17, fd18, fd19, fd20, fd21, fd22, fd23, fd24, fd25, fd26, fd27, fd28, fd29, fd30, fd31, fd32, fd33, fd34, fd35, fd36, fd37, fd38, fd39, fd40, fd41, fd42, fd43, fd44, fd45, fd46, fd47, fd48, fd49, fd50, fd51, fd52, LR.q0 L, -Int.reduceToNat, -Int32.reduceToNatClampNeg, il0, il1, il2, il3, il4, il5, il6, il7, il8, il9, il10, il11, il12, il13, il14, il15, il16, il17, il18, il19, il20, il21, il22, il23, il24, il25, il26, il27, il28, il29, il30, il31, il32, il35, il36, il38, il40, il42, il43, il44, il45, il46, il47, il48, il49, il50, il51, il52, il57, il59, il60, il63, il64, il75, il80, il95, il96, il97, il98, il99, il100, il120, il122, il123, il127, il128, il135, il167, il175, il225, il249, il250, il255, il256, il360, il370, il384, il600, il700, il740, il900, il940, il1024, il1600, il4800, il64000, il125000, il262143, il1000000000, iI_toInt, iI_add, iI_sub, iI_mul, iI_neg, iI_lt, iI_le, iI_eq, iI_n, iI_in, iI_div, iI_mod, iI_shm, iI_and1, iI_and7, iI_and63, iI_shr3, iI_shr6, rd_I, ob, Option.some.injEq, exists_eq_left', exists_eq_left, true_and, and_true, fqI, fqJ, eq_self, true_or, or_true, bP_0, bP_0i, npP, bP_1i, bP_b, not_true_eq_false, not_false_eq_true, false_implies, true_implies, implies_true, Classical.not_not, and_self, cP, cP', ite_n, ite_T, ite_F, ite_t, ite_f]
    have key := lp_fold (W := fun n' (b : Int32) j => wl_X4_hangingWith_22 (wl_X4_hangingWith_7 post m) post n' h (la + 10) cut b (iI p) g (iI j)) (E := fun b => iteP (b = g) (post h b) (wl_X4_hangingWith_7 post m h (la + 10) cut b (iI (p + 1)))) (f := hgF s cut) (lo := 0) (hi := s 4) (fun _ _ => True) (by omega) (fun b i q => q) (fun n' b j j1 j2 _ => ?_) (fun _ _ _ _ _ => trivial) (fun n' b _ => ?_) g trivial
    · rw [Int.sub_zero] at key
      refine key.mpr ?_
      show iteP (hgP s cut g = g) (post h (hgP s cut g)) (wl_X4_hangingWith_7 post m h (la + 10) cut (hgP s cut g) (iI (p + 1)))
      by_cases c : hgP s cut g = g
      · rw [ite_t c, c]
        have e : grp s r cut = g := by
          unfold grp
          rw [show (s 4).toNat = p.toNat + ((s 4).toNat - p.toNat) by omega, hgI_add, ← hg, hgI_fix c]
        rw [← e]
        exact k
      · rw [ite_f c]
        refine kk _ ?_
        rw [show (p + 1).toNat = p.toNat + 1 by omega, hgI_s, ← hg]
    · show wb_X4_hangingWith_22 (wl_X4_hangingWith_7 post m) (wl_X4_hangingWith_22 (wl_X4_hangingWith_7 post m) post n') h (la + 10) cut b (iI p) g (iI j) post ↔ _
      obtain ⟨⟨a1, a2⟩, b1, b2⟩ := rk j j1 j2
      unfold ropA at a1 a2
      unfold ropB at b1 b2
      unfold wb_X4_hangingWith_22 wb_X4_hangingWith_73
      simp (disch := omega) only [LB.o0 H, LB.p2 H, LB.o1 H, LB.l1 H, LB.p3 H, LB.o2 H, LB.l2 H, LB.p4 H, LB.o3 H, LB.l3 H, LB.p6 H, LB.o4 H, LB.l4 H, LB.p7 H, LB.o5 H, LB.l5 H, LB.p8 H, LB.o6 H, LB.l6 H, LB.p9 H, LB.o7 H, LB.l7 H, LB.p10 H, LB.o8 H, LB.l8 H, LB.p12 H, LB.o9 H, LB.l9 H, LB.p14 H, LB.o10 H, LB.p15 H, LB.o16 H, LB.q10_1 H, LB.o11 H, LB.l11 H, LB.q10_2 H, LB.o12 H, LB.l12 H, LB.q10_3 H, LB.o13 H, LB.l13 H, LB.q10_4 H, LB.o14 H, LB.l14 H, LB.q10_5 H, LB.o15 H, LB.l15 H, LB.q16_1 H, LB.o17 H, LB.l17 H, LB.q16_2 H, LB.o18 H, LB.l18 H, LB.q16_3 H, LB.o19 H, LB.l19 H, LB.q16_4 H, LB.o20 H, LB.l20 H, fd0, fd1, fd2, fd3, fd4, fd5, fd6, fd7, fd8, fd9, fd10, fd11, fd12, fd13, fd14, fd15, fd16, fd17, fd18, fd19, fd20, fd21, fd22, fd23, fd24, fd25, fd26, fd27, fd28, fd29, fd30, fd31, fd32, fd33, fd34, fd35, fd36, fd37, fd38, fd39, fd40, fd41, fd42, fd43, fd44, fd45, fd46, fd47, fd48, fd49, fd50, fd51, fd52, LR.q0 L, LR.ro L, LR.rp L, -Int.reduceToNat, -Int32.reduceToNatClampNeg, il0, il1, il2, il3, il4, il5, il6, il7, il8, il9, il10, il11, il12, il13, il14, il15, il16, il17, il18, il19, il20, il21, il22, il23, il24, il25, il26, il27, il28, il29, il30, il31, il32, il35, il36, il38, il40, il42, il43, il44, il45, il46, il47, il48, il49, il50, il51, il52, il57, il59, il60, il63, il64, il75, il80, il95, il96, il97, il98, il99, il100, il120, il122, il123, il127, il128, il135, il167, il175, il225, il249, il250, il255, il256, il360, il370, il384, il600, il700, il740, il900, il940, il1024, il1600, il4800, il64000, il125000, il262143, il1000000000, iI_toInt, iI_add, iI_sub, iI_mul, iI_neg, iI_lt, iI_le, iI_eq, iI_n, iI_in, iI_div, iI_mod, iI_shm, iI_and1, iI_and7, iI_and63, iI_shr3, iI_shr6, rd_I, ob, Option.some.injEq, exists_eq_left', exists_eq_left, true_and, and_true, fqI, fqJ, eq_self, true_or, or_true, bP_0, bP_0i, npP, bP_1i, bP_b, not_true_eq_false, not_false_eq_true, false_implies, true_implies, implies_true, Classical.not_not, and_self, cP, cP', ite_n, ite_f, sb_0, pair_0]
      unfold hgF ropA ropB
      by_cases c1 : sb cut j
      · rw [ite_t c1, ite_f (fun q => q.1 c1)]
      · rw [ite_f c1]
        by_cases c2 : sb b (s (135 + 4 * j)) ∨ sb b (s (135 + 4 * j + 1))
        · rw [ite_t c2, ite_t ⟨c1, c2⟩]
        · rw [ite_f c2, ite_f (fun q => c2 q.2)]
    · show wb_X4_hangingWith_22 (wl_X4_hangingWith_7 post m) (wl_X4_hangingWith_22 (wl_X4_hangingWith_7 post m) post n') h (la + 10) cut b (iI p) g (iI _) post ↔ _
      unfold wb_X4_hangingWith_22
      simp (disch := omega) only [LB.o0 H, LB.p2 H, LB.o1 H, LB.l1 H, LB.p3 H, LB.o2 H, LB.l2 H, LB.p4 H, LB.o3 H, LB.l3 H, LB.p6 H, LB.o4 H, LB.l4 H, LB.p7 H, LB.o5 H, LB.l5 H, LB.p8 H, LB.o6 H, LB.l6 H, LB.p9 H, LB.o7 H, LB.l7 H, LB.p10 H, LB.o8 H, LB.l8 H, LB.p12 H, LB.o9 H, LB.l9 H, LB.p14 H, LB.o10 H, LB.p15 H, LB.o16 H, LB.q10_1 H, LB.o11 H, LB.l11 H, LB.q10_2 H, LB.o12 H, LB.l12 H, LB.q10_3 H, LB.o13 H, LB.l13 H, LB.q10_4 H, LB.o14 H, LB.l14 H, LB.q10_5 H, LB.o15 H, LB.l15 H, LB.q16_1 H, LB.o17 H, LB.l17 H, LB.q16_2 H, LB.o18 H, LB.l18 H, LB.q16_3 H, LB.o19 H, LB.l19 H, LB.q16_4 H, LB.o20 H, LB.l20 H, fd0, fd1, fd2, fd3, fd4, fd5, fd6, fd7, fd8, fd9, fd10, fd11, fd12, fd13, fd14, fd15, fd16, fd17, fd18, fd19, fd20, fd21, fd22, fd23, fd24, fd25, fd26, fd27, fd28, fd29, fd30, fd31, fd32, fd33, fd34, fd35, fd36, fd37, fd38, fd39, fd40, fd41, fd42, fd43, fd44, fd45, fd46, fd47, fd48, fd49, fd50, fd51, fd52, LR.q0 L, -Int.reduceToNat, -Int32.reduceToNatClampNeg, il0, il1, il2, il3, il4, il5, il6, il7, il8, il9, il10, il11, il12, il13, il14, il15, il16, il17, il18, il19, il20, il21, il22, il23, il24, il25, il26, il27, il28, il29, il30, il31, il32, il35, il36, il38, il40, il42, il43, il44, il45, il46, il47, il48, il49, il50, il51, il52, il57, il59, il60, il63, il64, il75, il80, il95, il96, il97, il98, il99, il100, il120, il122, il123, il127, il128, il135, il167, il175, il225, il249, il250, il255, il256, il360, il370, il384, il600, il700, il740, il900, il940, il1024, il1600, il4800, il64000, il125000, il262143, il1000000000, iI_toInt, iI_add, iI_sub, iI_mul, iI_neg, iI_lt, iI_le, iI_eq, iI_n, iI_in, iI_div, iI_mod, iI_shm, iI_and1, iI_and7, iI_and63, iI_shr3, iI_shr6, rd_I, ob, Option.some.injEq, exists_eq_left', exists_eq_left, true_and, and_true, fqI, fqJ, eq_self, true_or, or_true, bP_0, bP_0i, npP, bP_1i, bP_b, not_true_eq_false, not_false_eq_true, false_implies, true_implies, implies_true, Classical.not_not, and_self, cP, cP', ite_n, ite_t]
  · intro m g hg
    show wb_X4_hangingWith_7 (wl_X4_hangingWith_7 post m) h (la + 10) cut g (iI (s 4)) post
    unfold wb_X4_hangingWith_7
    simp (disch := omega) only [LB.o0 H, LB.p2 H, LB.o1 H, LB.l1 H, LB.p3 H, LB.o2 H, LB.l2 H, LB.p4 H, LB.o3 H, LB.l3 H, LB.p6 H, LB.o4 H, LB.l4 H, LB.p7 H, LB.o5 H, LB.l5 H, LB.p8 H, LB.o6 H, LB.l6 H, LB.p9 H, LB.o7 H, LB.l7 H, LB.p10 H, LB.o8 H, LB.l8 H, LB.p12 H, LB.o9 H, LB.l9 H, LB.p14 H, LB.o10 H, LB.p15 H, LB.o16 H, LB.q10_1 H, LB.o11 H, LB.l11 H, LB.q10_2 H, LB.o12 H, LB.l12 H, LB.q10_3 H, LB.o13 H, LB.l13 H, LB.q10_4 H, LB.o14 H, LB.l14 H, LB.q10_5 H, LB.o15 H, LB.l15 H, LB.q16_1 H, LB.o17 H, LB.l17 H, LB.q16_2 H, LB.o18 H, LB.l18 H, LB.q16_3 H, LB.o19 H, LB.l19 H, LB.q16_4 H, LB.o20 H, LB.l20 H, fd0, fd1, fd2, fd3, fd4, fd5, fd6, fd7, fd8, fd9, fd10, fd11, fd12, fd13, fd14, fd15, fd16, fd17, fd18, fd19, fd20, fd21, fd22, fd23, fd24, fd25, fd26, fd27, fd28, fd29, fd30, fd31, fd32, fd33, fd34, fd35, fd36, fd37, fd38, fd39, fd40, fd41, fd42, fd43, fd44, fd45, fd46, fd47, fd48, fd49, fd50, fd51, fd52, LR.q0 L, -Int.reduceToNat, -Int32.reduceToNatClampNeg, il0, il1, il2, il3, il4, il5, il6, il7, il8, il9, il10, il11, il12, il13, il14, il15, il16, il17, il18, il19, il20, il21, il22, il23, il24, il25, il26, il27, il28, il29, il30, il31, il32, il35, il36, il38, il40, il42, il43, il44, il45, il46, il47, il48, il49, il50, il51, il52, il57, il59, il60, il63, il64, il75, il80, il95, il96, il97, il98, il99, il100, il120, il122, il123, il127, il128, il135, il167, il175, il225, il249, il250, il255, il256, il360, il370, il384, il600, il700, il740, il900, il940, il1024, il1600, il4800, il64000, il125000, il262143, il1000000000, iI_toInt, iI_add, iI_sub, iI_mul, iI_neg, iI_lt, iI_le, iI_eq, iI_n, iI_in, iI_div, iI_mod, iI_shm, iI_and1, iI_and7, iI_and63, iI_shr3, iI_shr6, rd_I, ob, Option.some.injEq, exists_eq_left', exists_eq_left, true_and, and_true, fqI, fqJ, eq_self, true_or, or_true, bP_0, bP_0i, npP, bP_1i, bP_b, not_true_eq_false, not_false_eq_true, false_implies, true_implies, implies_true, Classical.not_not, and_self, cP, cP', ite_n, ite_T, ite_F, ite_t, ite_f]
    rw [hg]
    exact k
theorem drv_bd (hG : GA s) (G : Int32) : (0 ≤ drvC s G ∧ drvC s G ≤ 72) ∧ 0 ≤ drvM s G ∧ drvM s G ≤ 792 := by
  have bd := hG.bd
  have c := sum_bd (P := sb G) (w := fun o => s (99 + 3 * o) * s (99 + 3 * o + 1)) (m := 9) (by omega) (s 2).toNat (fun o o1 o2 => by
    obtain ⟨⟨⟨z1, z2⟩, z3, z4⟩, -⟩ := hG.sd.2.2 o o1 (by omega)
    show 0 ≤ s (99 + 3 * o) * s (99 + 3 * o + 1) ∧ s (99 + 3 * o) * s (99 + 3 * o + 1) ≤ 9
    have p : 0 ≤ s (99 + 3 * o) * s (99 + 3 * o + 1) := Int.mul_nonneg (by omega) (by omega)
    have q : s (99 + 3 * o) * s (99 + 3 * o + 1) ≤ 3 * 3 := Int.mul_le_mul z2 z4 (by omega) (by omega)
    omega)
  have m := sum_bd (P := sb G) (w := fun o => s (167 + o)) (m := 99) (by omega) (s 2).toNat (fun o o1 o2 => hG.sb (167 + o) (by omega) (by omega))
  unfold drvC drvM
  omega
theorem drv_fbd (hG : GA s) (G : Int32) (h1 : 0 ≤ f) (h2 : f ≤ 99) : 0 ≤ f * drvC s G ∧ f * drvC s G ≤ 7128 := by
  have := (drv_bd hG G).1
  have p : 0 ≤ f * drvC s G := Int.mul_nonneg h1 this.1
  have q : f * drvC s G ≤ 99 * 72 := Int.mul_le_mul h2 this.2 this.1 (by omega)
  omega
theorem c_isDriven (H : LB h la) (L : LR h la s) (hG : GA s) (h1 : 0 ≤ r) (h2 : r < s 2) (h3 : 0 ≤ f) (h4 : f ≤ 99) (k : post h (bP (drvT s r f cut))) : wp_X1_isDriven h la (iI r) (iI f) cut post := by
  have bd := hG.bd
  unfold wp_X1_isDriven
  simp (disch := omega) only [LB.o0 H, LB.p2 H, LB.o1 H, LB.l1 H, LB.p3 H, LB.o2 H, LB.l2 H, LB.p4 H, LB.o3 H, LB.l3 H, LB.p6 H, LB.o4 H, LB.l4 H, LB.p7 H, LB.o5 H, LB.l5 H, LB.p8 H, LB.o6 H, LB.l6 H, LB.p9 H, LB.o7 H, LB.l7 H, LB.p10 H, LB.o8 H, LB.l8 H, LB.p12 H, LB.o9 H, LB.l9 H, LB.p14 H, LB.o10 H, LB.p15 H, LB.o16 H, LB.q10_1 H, LB.o11 H, LB.l11 H, LB.q10_2 H, LB.o12 H, LB.l12 H, LB.q10_3 H, LB.o13 H, LB.l13 H, LB.q10_4 H, LB.o14 H, LB.l14 H, LB.q10_5 H, LB.o15 H, LB.l15 H, LB.q16_1 H, LB.o17 H, LB.l17 H, LB.q16_2 H, LB.o18 H, LB.l18 H, LB.q16_3 H, LB.o19 H, LB.l19 H, LB.q16_4 H, LB.o20 H, LB.l20 H, -Int.reduceToNat, -Int32.reduceToNatClampNeg, il0, il1, il2, il3, il4, il5, il6, il7, il8, il9, il10, il11, il12, il13, il14, il15, il16, il17, il18, il19, il20, il21, il22, il23, il24, il25, il26, il27, il28, il29, il30, il31, il32, il35, il36, il38, il40, il42, il43, il44, il45, il46, il47, il48, il49, il50, il51, il52, il57, il59, il60, il63, il64, il75, il80, il95, il96, il97, il98, il99, il100, il120, il122, il123, il127, il128, il135, il167, il175, il225, il249, il250, il255, il256, il360, il370, il384, il600, il700, il740, il900, il940, il1024, il1600, il4800, il64000, il125000, il262143, il1000000000, iI_toInt, iI_add, iI_sub, iI_mul, iI_neg, iI_lt, iI_le, iI_eq, iI_n, iI_in, iI_div, iI_mod, iI_shm, iI_and1, iI_and7, iI_and63, iI_shr3, iI_shr6, rd_I, ob, Option.some.injEq, exists_eq_left', exists_eq_left, true_and, and_true, fqI, fqJ, eq_self, true_or, or_true, bP_0, bP_0i, npP, bP_1i, bP_b, not_true_eq_false, not_false_eq_true, false_implies, true_implies, implies_true, Classical.not_not, and_self]
  refine c_hanging H L hG h1 h2 ?_
  generalize hGG : grp s r cut = G
  refine lf_for (W := fun n (v : Int × Int) o => wl_X1_isDriven_20 post n h la (iI f) G (iI v.1) (iI v.2) (iI o)) (lo := 0) (hi := s 2) (fun o v => v.1 = foldI (sumF (sb G) (fun o => s (99 + 3 * o) * s (99 + 3 * o + 1))) o.toNat 0 0 ∧ v.2 = foldI (sumF (sb G) (fun o => s (167 + o))) o.toNat 0 0) (by omega) ?_ ?_ (0, 0) ⟨rfl, rfl⟩
  · intro m v o o1 o2 hv kk
    show wb_X1_isDriven_20 (wl_X1_isDriven_20 post m) h la (iI f) G (iI v.1) (iI v.2) (iI o) post
    unfold wb_X1_isDriven_20 wb_X1_isDriven_74
    simp (disch := omega) only [LB.o0 H, LB.p2 H, LB.o1 H, LB.l1 H, LB.p3 H, LB.o2 H, LB.l2 H, LB.p4 H, LB.o3 H, LB.l3 H, LB.p6 H, LB.o4 H, LB.l4 H, LB.p7 H, LB.o5 H, LB.l5 H, LB.p8 H, LB.o6 H, LB.l6 H, LB.p9 H, LB.o7 H, LB.l7 H, LB.p10 H, LB.o8 H, LB.l8 H, LB.p12 H, LB.o9 H, LB.l9 H, LB.p14 H, LB.o10 H, LB.p15 H, LB.o16 H, LB.q10_1 H, LB.o11 H, LB.l11 H, LB.q10_2 H, LB.o12 H, LB.l12 H, LB.q10_3 H, LB.o13 H, LB.l13 H, LB.q10_4 H, LB.o14 H, LB.l14 H, LB.q10_5 H, LB.o15 H, LB.l15 H, LB.q16_1 H, LB.o17 H, LB.l17 H, LB.q16_2 H, LB.o18 H, LB.l18 H, LB.q16_3 H, LB.o19 H, LB.l19 H, LB.q16_4 H, LB.o20 H, LB.l20 H, fd0, fd1, fd2, fd3, fd4, fd5, fd6, fd7, fd8, fd9, fd10, fd11, fd12, fd13, fd14, fd15, fd16, fd17, fd18, fd19, fd20, fd21, fd22, fd23, fd24, fd25, fd26, fd27, fd28, fd29, fd30, fd31, fd32, fd33, fd34, fd35, fd36, fd37, fd38, fd39, fd40, fd41, fd42, fd43, fd44, fd45, fd46, fd47, fd48, fd49, fd50, fd51, fd52, LR.c5 L, LR.wi L, LR.hi L, LR.mo L, -Int.reduceToNat, -Int32.reduceToNatClampNeg, il0, il1, il2, il3, il4, il5, il6, il7, il8, il9, il10, il11, il12, il13, il14, il15, il16, il17, il18, il19, il20, il21, il22, il23, il24, il25, il26, il27, il28, il29, il30, il31, il32, il35, il36, il38, il40, il42, il43, il44, il45, il46, il47, il48, il49, il50, il51, il52, il57, il59, il60, il63, il64, il75, il80, il95, il96, il97, il98, il99, il100, il120, il122, il123, il127, il128, il135, il167, il175, il225, il249, il250, il255, il256, il360, il370, il384, il600, il700, il740, il900, il940, il1024, il1600, il4800, il64000, il125000, il262143, il1000000000, iI_toInt, iI_add, iI_sub, iI_mul, iI_neg, iI_lt, iI_le, iI_eq, iI_n, iI_in, iI_div, iI_mod, iI_shm, iI_and1, iI_and7, iI_and63, iI_shr3, iI_shr6, rd_I, ob, Option.some.injEq, exists_eq_left', exists_eq_left, true_and, and_true, fqI, fqJ, eq_self, true_or, or_true, bP_0, bP_0i, npP, bP_1i, bP_b, not_true_eq_false, not_false_eq_true, false_implies, true_implies, implies_true, Classical.not_not, and_self, cP, cP', ite_n, ite_f, sb_0]
    have e1 : (o + 1).toNat = o.toNat + 1 := by omega
    have e2 : (0 : Int) + (o.toNat : Int) = o := by omega
    have fin : ∀ v' : Int × Int, v'.1 = sumF (sb G) (fun o => s (99 + 3 * o) * s (99 + 3 * o + 1)) o v.1 → v'.2 = sumF (sb G) (fun o => s (167 + o)) o v.2 → wl_X1_isDriven_20 post m h la (iI f) G (iI v'.1) (iI v'.2) (iI (o + 1)) := fun v' q1 q2 => kk v' ⟨by rw [q1, hv.1, e1, foldI_snoc, e2], by rw [q2, hv.2, e1, foldI_snoc, e2]⟩
    by_cases c : sb G o
    · rw [ite_t c]
      exact fin (v.1 + s (99 + 3 * o) * s (99 + 3 * o + 1), v.2 + s (167 + o)) (by unfold sumF; rw [ite_t c]) (by unfold sumF; rw [ite_t c])
    · rw [ite_f c]
      exact fin v (by unfold sumF; rw [ite_f c]) (by unfold sumF; rw [ite_f c])
  · intro m v hv
    show wb_X1_isDriven_20 (wl_X1_isDriven_20 post m) h la (iI f) G (iI v.1) (iI v.2) (iI (s 2)) post
    have v1 : v.1 = drvC s G := hv.1
    have v2 : v.2 = drvM s G := hv.2
    have b1 := drv_fbd hG G h3 h4
    have b2 := drv_bd hG G
    unfold wb_X1_isDriven_20
    rw [v1, v2]
    simp (disch := omega) only [LB.o0 H, LB.p2 H, LB.o1 H, LB.l1 H, LB.p3 H, LB.o2 H, LB.l2 H, LB.p4 H, LB.o3 H, LB.l3 H, LB.p6 H, LB.o4 H, LB.l4 H, LB.p7 H, LB.o5 H, LB.l5 H, LB.p8 H, LB.o6 H, LB.l6 H, LB.p9 H, LB.o7 H, LB.l7 H, LB.p10 H, LB.o8 H, LB.l8 H, LB.p12 H, LB.o9 H, LB.l9 H, LB.p14 H, LB.o10 H, LB.p15 H, LB.o16 H, LB.q10_1 H, LB.o11 H, LB.l11 H, LB.q10_2 H, LB.o12 H, LB.l12 H, LB.q10_3 H, LB.o13 H, LB.l13 H, LB.q10_4 H, LB.o14 H, LB.l14 H, LB.q10_5 H, LB.o15 H, LB.l15 H, LB.q16_1 H, LB.o17 H, LB.l17 H, LB.q16_2 H, LB.o18 H, LB.l18 H, LB.q16_3 H, LB.o19 H, LB.l19 H, LB.q16_4 H, LB.o20 H, LB.l20 H, fd0, fd1, fd2, fd3, fd4, fd5, fd6, fd7, fd8, fd9, fd10, fd11, fd12, fd13, fd14, fd15, fd16, fd17, fd18, fd19, fd20, fd21, fd22, fd23, fd24, fd25, fd26, fd27, fd28, fd29, fd30, fd31, fd32, fd33, fd34, fd35, fd36, fd37, fd38, fd39, fd40, fd41, fd42, fd43, fd44, fd45, fd46, fd47, fd48, fd49, fd50, fd51, fd52, LR.c5 L, -Int.reduceToNat, -Int32.reduceToNatClampNeg, il0, il1, il2, il3, il4, il5, il6, il7, il8, il9, il10, il11, il12, il13, il14, il15, il16, il17, il18, il19, il20, il21, il22, il23, il24, il25, il26, il27, il28, il29, il30, il31, il32, il35, il36, il38, il40, il42, il43, il44, il45, il46, il47, il48, il49, il50, il51, il52, il57, il59, il60, il63, il64, il75, il80, il95, il96, il97, il98, il99, il100, il120, il122, il123, il127, il128, il135, il167, il175, il225, il249, il250, il255, il256, il360, il370, il384, il600, il700, il740, il900, il940, il1024, il1600, il4800, il64000, il125000, il262143, il1000000000, iI_toInt, iI_add, iI_sub, iI_mul, iI_neg, iI_lt, iI_le, iI_eq, iI_n, iI_in, iI_div, iI_mod, iI_shm, iI_and1, iI_and7, iI_and63, iI_shr3, iI_shr6, rd_I, ob, Option.some.injEq, exists_eq_left', exists_eq_left, true_and, and_true, fqI, fqJ, eq_self, true_or, or_true, bP_0, bP_0i, npP, bP_1i, bP_b, not_true_eq_false, not_false_eq_true, false_implies, true_implies, implies_true, Classical.not_not, and_self, cP, cP', ite_n, ite_t]
    unfold drvT at k
    rw [hGG] at k
    by_cases c : f * drvC s G ≤ drvM s G
    · rw [ite_t c]; rw [bP_f (fun q => q c)] at k; exact k
    · rw [ite_f c]; rw [bP_t c] at k; exact k
theorem m_has {g : Int32} (h1 : 0 ≤ a) (h2 : a < 32) : wp_X12_has h g (iI a) post ↔ post h (bP (sb g a)) := by
  unfold wp_X12_has
  simp (disch := omega) only [-Int.reduceToNat, -Int32.reduceToNatClampNeg, il0, il1, il2, il3, il4, il5, il6, il7, il8, il9, il10, il11, il12, il13, il14, il15, il16, il17, il18, il19, il20, il21, il22, il23, il24, il25, il26, il27, il28, il29, il30, il31, il32, il35, il36, il38, il40, il42, il43, il44, il45, il46, il47, il48, il49, il50, il51, il52, il57, il59, il60, il63, il64, il75, il80, il95, il96, il97, il98, il99, il100, il120, il122, il123, il127, il128, il135, il167, il175, il225, il249, il250, il255, il256, il360, il370, il384, il600, il700, il740, il900, il940, il1024, il1600, il4800, il64000, il125000, il262143, il1000000000, iI_toInt, iI_add, iI_sub, iI_mul, iI_neg, iI_lt, iI_le, iI_eq, iI_n, iI_in, iI_div, iI_mod, iI_shm, iI_and1, iI_and7, iI_and63, iI_shr3, iI_shr6, rd_I, ob, Option.some.injEq, exists_eq_left', exists_eq_left, true_and, and_true, fqI, fqJ, eq_self, true_or, or_true, bP_0, bP_0i, npP, bP_1i, bP_b, not_true_eq_false, not_false_eq_true, false_implies, true_implies, implies_true, Classical.not_not, and_self, cP, cP', ite_n, sb_1]
  by_cases c : sb g a
  · rw [ite_t c, bP_t c]
  · rw [ite_f c, bP_f c]
theorem m_together (M : MSh h) (hG : GA (rd h 94)) (h1 : 0 ≤ r) (h2 : r < rd h 94 2) (k : post h (grp (rd h 94) r cut)) : wp_X12_together h 92 (iI r) cut post := by
  have bd := hG.bd
  have rk := hG.rk
  generalize hs : rd h 94 = s at hG bd rk k h2
  unfold wp_X12_together
  simp (disch := omega) only [-Int.reduceToNat, -Int32.reduceToNatClampNeg, il0, il1, il2, il3, il4, il5, il6, il7, il8, il9, il10, il11, il12, il13, il14, il15, il16, il17, il18, il19, il20, il21, il22, il23, il24, il25, il26, il27, il28, il29, il30, il31, il32, il35, il36, il38, il40, il42, il43, il44, il45, il46, il47, il48, il49, il50, il51, il52, il57, il59, il60, il63, il64, il75, il80, il95, il96, il97, il98, il99, il100, il120, il122, il123, il127, il128, il135, il167, il175, il225, il249, il250, il255, il256, il360, il370, il384, il600, il700, il740, il900, il940, il1024, il1600, il4800, il64000, il125000, il262143, il1000000000, iI_toInt, iI_add, iI_sub, iI_mul, iI_neg, iI_lt, iI_le, iI_eq, iI_n, iI_in, iI_div, iI_mod, iI_shm, iI_and1, iI_and7, iI_and63, iI_shr3, iI_shr6, rd_I, ob, Option.some.injEq, exists_eq_left', exists_eq_left, true_and, and_true, fqI, fqJ, eq_self, true_or, or_true, bP_0, bP_0i, npP, bP_1i, bP_b, not_true_eq_false, not_false_eq_true, false_implies, true_implies, implies_true, Classical.not_not, and_self]
  -- one pass
  have pass : ∀ (m : Nat) (g : Int32), wl_X12_together_7 post m h 92 cut (hgP s cut g) g → ∃ n', wl_X12_together_19 (wl_X12_together_7 post m) post n' h 92 cut g g (iI 0) := by
    intro m g hw
    have key := lp_fold (W := fun n' (b : Int32) j => wl_X12_together_19 (wl_X12_together_7 post m) post n' h 92 cut b g (iI j)) (E := fun b => wl_X12_together_7 post m h 92 cut b g) (f := hgF s cut) (lo := 0) (hi := s 4) (fun _ _ => True) (by omega) (fun b i q => q) (fun n' b j j1 j2 _ => ?_) (fun _ _ _ _ _ => trivial) (fun n' b _ => ?_) g trivial
    · rw [Int.sub_zero] at key
      exact key.mpr hw
    · show wb_X12_together_19 (wl_X12_together_7 post m) (wl_X12_together_19 (wl_X12_together_7 post m) post n') h 92 cut b g (iI j) post ↔ _
      obtain ⟨⟨a1, a2⟩, b1, b2⟩ := rk j j1 j2
      unfold ropA at a1 a2
      unfold ropB at b1 b2
      unfold wb_X12_together_19 wb_X12_together_89 wb_X12_together_101
      simp (disch := omega) only [MSh.o0 M, MSh.p1 M, MSh.o1 M, MSh.l1 M, MSh.p6 M, MSh.o2 M, MSh.l2 M, MSh.p7 M, MSh.o3 M, MSh.l3 M, MSh.p8 M, MSh.o4 M, MSh.l4 M, MSh.p9 M, MSh.o5 M, MSh.l5 M, MSh.p10 M, MSh.o6 M, MSh.l6 M, MSh.p24 M, MSh.o7 M, MSh.l7 M, MSh.p25 M, MSh.o8 M, MSh.l8 M, MSh.p26 M, MSh.o9 M, MSh.l9 M, MSh.p32 M, MSh.o10 M, MSh.l10 M, MSh.p33 M, MSh.o11 M, MSh.l11 M, MSh.p35 M, MSh.o12 M, MSh.l12 M, MSh.p36 M, MSh.o13 M, MSh.l13 M, MSh.p37 M, MSh.o14 M, MSh.l14 M, MSh.p38 M, MSh.o15 M, MSh.l15 M, MSh.p39 M, MSh.o16 M, MSh.l16 M, MSh.p42 M, MSh.o17 M, MSh.l17 M, MSh.p43 M, MSh.o18 M, MSh.l18 M, MSh.p44 M, MSh.o19 M, MSh.l19 M, MSh.p45 M, MSh.o20 M, MSh.l20 M, MSh.p46 M, MSh.o21 M, MSh.l21 M, MSh.p47 M, MSh.o22 M, MSh.l22 M, MSh.p50 M, MSh.o23 M, MSh.l23 M, MSh.p51 M, MSh.o24 M, MSh.l24 M, MSh.p52 M, MSh.o25 M, MSh.l25 M, hs, -Int.reduceToNat, -Int32.reduceToNatClampNeg, il0, il1, il2, il3, il4, il5, il6, il7, il8, il9, il10, il11, il12, il13, il14, il15, il16, il17, il18, il19, il20, il21, il22, il23, il24, il25, il26, il27, il28, il29, il30, il31, il32, il35, il36, il38, il40, il42, il43, il44, il45, il46, il47, il48, il49, il50, il51, il52, il57, il59, il60, il63, il64, il75, il80, il95, il96, il97, il98, il99, il100, il120, il122, il123, il127, il128, il135, il167, il175, il225, il249, il250, il255, il256, il360, il370, il384, il600, il700, il740, il900, il940, il1024, il1600, il4800, il64000, il125000, il262143, il1000000000, iI_toInt, iI_add, iI_sub, iI_mul, iI_neg, iI_lt, iI_le, iI_eq, iI_n, iI_in, iI_div, iI_mod, iI_shm, iI_and1, iI_and7, iI_and63, iI_shr3, iI_shr6, rd_I, ob, Option.some.injEq, exists_eq_left', exists_eq_left, true_and, and_true, fqI, fqJ, eq_self, true_or, or_true, bP_0, bP_0i, npP, bP_1i, bP_b, not_true_eq_false, not_false_eq_true, false_implies, true_implies, implies_true, Classical.not_not, and_self, cP, cP', ite_n, ite_f, m_has]
      unfold hgF ropA ropB
      by_cases c1 : sb cut j
      · rw [ite_t c1, ite_f (fun q => q.1 c1)]
      · rw [ite_f c1]
        by_cases c2 : sb b (s (135 + 4 * j))
        · rw [ite_t c2, ite_t ⟨c1, Or.inl c2⟩]
        · rw [ite_f c2]
          by_cases c3 : sb b (s (135 + 4 * j + 1))
          · rw [ite_t c3, ite_t ⟨c1, Or.inr c3⟩]
          · rw [ite_f c3, ite_f (fun q => q.2.elim c2 c3)]
    · show wb_X12_together_19 (wl_X12_together_7 post m) (wl_X12_together_19 (wl_X12_together_7 post m) post n') h 92 cut b g (iI _) post ↔ _
      unfold wb_X12_together_19
      simp (disch := omega) only [MSh.o0 M, MSh.p1 M, MSh.o1 M, MSh.l1 M, MSh.p6 M, MSh.o2 M, MSh.l2 M, MSh.p7 M, MSh.o3 M, MSh.l3 M, MSh.p8 M, MSh.o4 M, MSh.l4 M, MSh.p9 M, MSh.o5 M, MSh.l5 M, MSh.p10 M, MSh.o6 M, MSh.l6 M, MSh.p24 M, MSh.o7 M, MSh.l7 M, MSh.p25 M, MSh.o8 M, MSh.l8 M, MSh.p26 M, MSh.o9 M, MSh.l9 M, MSh.p32 M, MSh.o10 M, MSh.l10 M, MSh.p33 M, MSh.o11 M, MSh.l11 M, MSh.p35 M, MSh.o12 M, MSh.l12 M, MSh.p36 M, MSh.o13 M, MSh.l13 M, MSh.p37 M, MSh.o14 M, MSh.l14 M, MSh.p38 M, MSh.o15 M, MSh.l15 M, MSh.p39 M, MSh.o16 M, MSh.l16 M, MSh.p42 M, MSh.o17 M, MSh.l17 M, MSh.p43 M, MSh.o18 M, MSh.l18 M, MSh.p44 M, MSh.o19 M, MSh.l19 M, MSh.p45 M, MSh.o20 M, MSh.l20 M, MSh.p46 M, MSh.o21 M, MSh.l21 M, MSh.p47 M, MSh.o22 M, MSh.l22 M, MSh.p50 M, MSh.o23 M, MSh.l23 M, MSh.p51 M, MSh.o24 M, MSh.l24 M, MSh.p52 M, MSh.o25 M, MSh.l25 M, hs, -Int.reduceToNat, -Int32.reduceToNatClampNeg, il0, il1, il2, il3, il4, il5, il6, il7, il8, il9, il10, il11, il12, il13, il14, il15, il16, il17, il18, il19, il20, il21, il22, il23, il24, il25, il26, il27, il28, il29, il30, il31, il32, il35, il36, il38, il40, il42, il43, il44, il45, il46, il47, il48, il49, il50, il51, il52, il57, il59, il60, il63, il64, il75, il80, il95, il96, il97, il98, il99, il100, il120, il122, il123, il127, il128, il135, il167, il175, il225, il249, il250, il255, il256, il360, il370, il384, il600, il700, il740, il900, il940, il1024, il1600, il4800, il64000, il125000, il262143, il1000000000, iI_toInt, iI_add, iI_sub, iI_mul, iI_neg, iI_lt, iI_le, iI_eq, iI_n, iI_in, iI_div, iI_mod, iI_shm, iI_and1, iI_and7, iI_and63, iI_shr3, iI_shr6, rd_I, ob, Option.some.injEq, exists_eq_left', exists_eq_left, true_and, and_true, fqI, fqJ, eq_self, true_or, or_true, bP_0, bP_0i, npP, bP_1i, bP_b, not_true_eq_false, not_false_eq_true, false_implies, true_implies, implies_true, Classical.not_not, and_self, cP, cP', ite_n, ite_t]
  -- from the end back
  have last : ∀ m, wl_X12_together_7 post (m + 1) h 92 cut (grp s r cut) (grp s r cut) := by
    intro m
    show wb_X12_together_7 (wl_X12_together_7 post m) h 92 cut (grp s r cut) (grp s r cut) post
    unfold wb_X12_together_7
    exact ⟨fun _ => k, fun q => absurd rfl q⟩
  have step : ∀ (m : Nat) (g v : Int32), wl_X12_together_7 post m h 92 cut (hgP s cut g) g → ¬ v = g → wl_X12_together_7 post (m + 1) h 92 cut g v := by
    intro m g v hw hne
    show wb_X12_together_7 (wl_X12_together_7 post m) h 92 cut g v post
    unfold wb_X12_together_7
    exact ⟨fun q => absurd q hne, fun _ => pass m g hw⟩
  -- p passes are left
  have go : ∀ (q p : Nat), p + q = (s 4).toNat → ∀ v, ¬ v = hgI s cut p (iI 1 <<< iI r) → ∃ n, wl_X12_together_7 post n h 92 cut (hgI s cut p (iI 1 <<< iI r)) v := by
    intro q
    induction q with
    | zero =>
      intro p hp v hv
      have e : hgI s cut p (iI 1 <<< iI r) = grp s r cut := by unfold grp; rw [← hp]; rfl
      rw [e] at hv ⊢
      refine ⟨2, step 1 _ _ ?_ hv⟩
      have := hgI_end (cut := cut) (by omega) rk (iI 1 <<< iI r)
      show wl_X12_together_7 post (0 + 1) h 92 cut (hgP s cut (grp s r cut)) (grp s r cut)
      rw [show hgP s cut (grp s r cut) = grp s r cut from this]
      exact last 0
    | succ q ih =>
      intro p hp v hv
      by_cases c : hgP s cut (hgI s cut p (iI 1 <<< iI r)) = hgI s cut p (iI 1 <<< iI r)
      · have e : hgI s cut p (iI 1 <<< iI r) = grp s r cut := by
          unfold grp
          rw [← hp, hgI_add, hgI_fix c]
        rw [e] at hv c ⊢
        refine ⟨2, step 1 _ _ ?_ hv⟩
        rw [c]
        exact last 0
      · obtain ⟨n, hn⟩ := ih (p + 1) (by omega) (hgI s cut p (iI 1 <<< iI r)) (fun q => c (by rw [← hgI_s]; exact q.symm))
        rw [hgI_s] at hn
        exact ⟨n + 1, step n _ _ hn hv⟩
  refine go (s 4).toNat 0 (by omega) (iI 0) fun q => ?_
  have p := sb_z r
  rw [q] at p
  exact p ((sb_one h1 (by omega) h1 (by omega)).mpr rfl)
theorem m_isDriven (M : MSh h) (hG : GA (rd h 94)) (h1 : 0 ≤ r) (h2 : r < rd h 94 2) (h3 : 0 ≤ f) (h4 : f ≤ 99) (k : post h (bP (drvT (rd h 94) r f cut))) : wp_X12_isDriven h 92 (iI r) (iI f) cut post := by
  have bd := hG.bd
  unfold wp_X12_isDriven
  refine ⟨M.o0, m_together M hG h1 h2 ?_⟩
  generalize hs : rd h 94 = s at hG bd k h2
  generalize hGG : grp s r cut = G
  refine lf_for (W := fun n (v : Int × Int) o => wl_X12_isDriven_17 post n h 92 (iI f) G (iI v.1) (iI v.2) (iI o)) (lo := 0) (hi := s 2) (fun o v => v.1 = foldI (sumF (sb G) (fun o => s (99 + 3 * o) * s (99 + 3 * o + 1))) o.toNat 0 0 ∧ v.2 = foldI (sumF (sb G) (fun o => s (167 + o))) o.toNat 0 0) (by omega) ?_ ?_ (0, 0) ⟨rfl, rfl⟩
  · intro m v o o1 o2 hv kk
    show wb_X12_isDriven_17 (wl_X12_isDriven_17 post m) h 92 (iI f) G (iI v.1) (iI v.2) (iI o) post
    unfold wb_X12_isDriven_17 wb_X12_isDriven_89
    simp (disch := omega) only [MSh.o0 M, MSh.p1 M, MSh.o1 M, MSh.l1 M, MSh.p6 M, MSh.o2 M, MSh.l2 M, MSh.p7 M, MSh.o3 M, MSh.l3 M, MSh.p8 M, MSh.o4 M, MSh.l4 M, MSh.p9 M, MSh.o5 M, MSh.l5 M, MSh.p10 M, MSh.o6 M, MSh.l6 M, MSh.p24 M, MSh.o7 M, MSh.l7 M, MSh.p25 M, MSh.o8 M, MSh.l8 M, MSh.p26 M, MSh.o9 M, MSh.l9 M, MSh.p32 M, MSh.o10 M, MSh.l10 M, MSh.p33 M, MSh.o11 M, MSh.l11 M, MSh.p35 M, MSh.o12 M, MSh.l12 M, MSh.p36 M, MSh.o13 M, MSh.l13 M, MSh.p37 M, MSh.o14 M, MSh.l14 M, MSh.p38 M, MSh.o15 M, MSh.l15 M, MSh.p39 M, MSh.o16 M, MSh.l16 M, MSh.p42 M, MSh.o17 M, MSh.l17 M, MSh.p43 M, MSh.o18 M, MSh.l18 M, MSh.p44 M, MSh.o19 M, MSh.l19 M, MSh.p45 M, MSh.o20 M, MSh.l20 M, MSh.p46 M, MSh.o21 M, MSh.l21 M, MSh.p47 M, MSh.o22 M, MSh.l22 M, MSh.p50 M, MSh.o23 M, MSh.l23 M, MSh.p51 M, MSh.o24 M, MSh.l24 M, MSh.p52 M, MSh.o25 M, MSh.l25 M, hs, -Int.reduceToNat, -Int32.reduceToNatClampNeg, il0, il1, il2, il3, il4, il5, il6, il7, il8, il9, il10, il11, il12, il13, il14, il15, il16, il17, il18, il19, il20, il21, il22, il23, il24, il25, il26, il27, il28, il29, il30, il31, il32, il35, il36, il38, il40, il42, il43, il44, il45, il46, il47, il48, il49, il50, il51, il52, il57, il59, il60, il63, il64, il75, il80, il95, il96, il97, il98, il99, il100, il120, il122, il123, il127, il128, il135, il167, il175, il225, il249, il250, il255, il256, il360, il370, il384, il600, il700, il740, il900, il940, il1024, il1600, il4800, il64000, il125000, il262143, il1000000000, iI_toInt, iI_add, iI_sub, iI_mul, iI_neg, iI_lt, iI_le, iI_eq, iI_n, iI_in, iI_div, iI_mod, iI_shm, iI_and1, iI_and7, iI_and63, iI_shr3, iI_shr6, rd_I, ob, Option.some.injEq, exists_eq_left', exists_eq_left, true_and, and_true, fqI, fqJ, eq_self, true_or, or_true, bP_0, bP_0i, npP, bP_1i, bP_b, not_true_eq_false, not_false_eq_true, false_implies, true_implies, implies_true, Classical.not_not, and_self, cP, cP', ite_n, ite_f, m_has]
    have e1 : (o + 1).toNat = o.toNat + 1 := by omega
    have e2 : (0 : Int) + (o.toNat : Int) = o := by omega
    have fin : ∀ v' : Int × Int, v'.1 = sumF (sb G) (fun o => s (99 + 3 * o) * s (99 + 3 * o + 1)) o v.1 → v'.2 = sumF (sb G) (fun o => s (167 + o)) o v.2 → wl_X12_isDriven_17 post m h 92 (iI f) G (iI v'.1) (iI v'.2) (iI (o + 1)) := fun v' q1 q2 => kk v' ⟨by rw [q1, hv.1, e1, foldI_snoc, e2], by rw [q2, hv.2, e1, foldI_snoc, e2]⟩
    by_cases c : sb G o
    · rw [ite_t c]
      exact fin (v.1 + s (99 + 3 * o) * s (99 + 3 * o + 1), v.2 + s (167 + o)) (by unfold sumF; rw [ite_t c]) (by unfold sumF; rw [ite_t c])
    · rw [ite_f c]
      exact fin v (by unfold sumF; rw [ite_f c]) (by unfold sumF; rw [ite_f c])
  · intro m v hv
    show wb_X12_isDriven_17 (wl_X12_isDriven_17 post m) h 92 (iI f) G (iI v.1) (iI v.2) (iI (s 2)) post
    have v1 : v.1 = drvC s G := hv.1
    have v2 : v.2 = drvM s G := hv.2
    have b1 := drv_fbd hG G h3 h4
    have b2 := drv_bd hG G
    unfold wb_X12_isDriven_17
    rw [v1, v2]
    simp (disch := omega) only [MSh.o0 M, MSh.p1 M, MSh.o1 M, MSh.l1 M, MSh.p6 M, MSh.o2 M, MSh.l2 M, MSh.p7 M, MSh.o3 M, MSh.l3 M, MSh.p8 M, MSh.o4 M, MSh.l4 M, MSh.p9 M, MSh.o5 M, MSh.l5 M, MSh.p10 M, MSh.o6 M, MSh.l6 M, MSh.p24 M, MSh.o7 M, MSh.l7 M, MSh.p25 M, MSh.o8 M, MSh.l8 M, MSh.p26 M, MSh.o9 M, MSh.l9 M, MSh.p32 M, MSh.o10 M, MSh.l10 M, MSh.p33 M, MSh.o11 M, MSh.l11 M, MSh.p35 M, MSh.o12 M, MSh.l12 M, MSh.p36 M, MSh.o13 M, MSh.l13 M, MSh.p37 M, MSh.o14 M, MSh.l14 M, MSh.p38 M, MSh.o15 M, MSh.l15 M, MSh.p39 M, MSh.o16 M, MSh.l16 M, MSh.p42 M, MSh.o17 M, MSh.l17 M, MSh.p43 M, MSh.o18 M, MSh.l18 M, MSh.p44 M, MSh.o19 M, MSh.l19 M, MSh.p45 M, MSh.o20 M, MSh.l20 M, MSh.p46 M, MSh.o21 M, MSh.l21 M, MSh.p47 M, MSh.o22 M, MSh.l22 M, MSh.p50 M, MSh.o23 M, MSh.l23 M, MSh.p51 M, MSh.o24 M, MSh.l24 M, MSh.p52 M, MSh.o25 M, MSh.l25 M, hs, -Int.reduceToNat, -Int32.reduceToNatClampNeg, il0, il1, il2, il3, il4, il5, il6, il7, il8, il9, il10, il11, il12, il13, il14, il15, il16, il17, il18, il19, il20, il21, il22, il23, il24, il25, il26, il27, il28, il29, il30, il31, il32, il35, il36, il38, il40, il42, il43, il44, il45, il46, il47, il48, il49, il50, il51, il52, il57, il59, il60, il63, il64, il75, il80, il95, il96, il97, il98, il99, il100, il120, il122, il123, il127, il128, il135, il167, il175, il225, il249, il250, il255, il256, il360, il370, il384, il600, il700, il740, il900, il940, il1024, il1600, il4800, il64000, il125000, il262143, il1000000000, iI_toInt, iI_add, iI_sub, iI_mul, iI_neg, iI_lt, iI_le, iI_eq, iI_n, iI_in, iI_div, iI_mod, iI_shm, iI_and1, iI_and7, iI_and63, iI_shr3, iI_shr6, rd_I, ob, Option.some.injEq, exists_eq_left', exists_eq_left, true_and, and_true, fqI, fqJ, eq_self, true_or, or_true, bP_0, bP_0i, npP, bP_1i, bP_b, not_true_eq_false, not_false_eq_true, false_implies, true_implies, implies_true, Classical.not_not, and_self, cP, cP', ite_n, ite_t]
    unfold drvT at k
    rw [hGG] at k
    by_cases c : f * drvC s G ≤ drvM s G
    · rw [ite_t c]; rw [bP_f (fun q => q c)] at k; exact k
    · rw [ite_f c]; rw [bP_t c] at k; exact k
noncomputable def stmV (s : Int → Int) (f : Int) : Int32 := iteP (0 ≤ f ∧ f ≤ 99) (foldI (bitsF (fun r => drvT s r f (iI 0))) (s 2).toNat 0 (iI 0)) (iI (-1))
theorem cX_storm (I : Inv h i la fr qa ac) (hf : -2147483648 ≤ f) (hf' : f < 2147483648) (k : post h (stmV (rd h 94) f)) : wp_X11_storm h 0 (iI f) post := by
  obtain ⟨S, M, hl, hp, H, L, T, hG, hZ⟩ := I.core
  have bd := hG.bd
  unfold wp_X11_storm
  unfold stmV at k
  simp (disch := omega) only [-Int.reduceToNat, -Int32.reduceToNatClampNeg, il0, il1, il2, il3, il4, il5, il6, il7, il8, il9, il10, il11, il12, il13, il14, il15, il16, il17, il18, il19, il20, il21, il22, il23, il24, il25, il26, il27, il28, il29, il30, il31, il32, il35, il36, il38, il40, il42, il43, il44, il45, il46, il47, il48, il49, il50, il51, il52, il57, il59, il60, il63, il64, il75, il80, il95, il96, il97, il98, il99, il100, il120, il122, il123, il127, il128, il135, il167, il175, il225, il249, il250, il255, il256, il360, il370, il384, il600, il700, il740, il900, il940, il1024, il1600, il4800, il64000, il125000, il262143, il1000000000, iI_toInt, iI_add, iI_sub, iI_mul, iI_neg, iI_lt, iI_le, iI_eq, iI_n, iI_in, iI_div, iI_mod, iI_shm, iI_and1, iI_and7, iI_and63, iI_shr3, iI_shr6, rd_I, ob, Option.some.injEq, exists_eq_left', exists_eq_left, true_and, and_true, fqI, fqJ, eq_self, true_or, or_true, bP_0, bP_0i, npP, bP_1i, bP_b, not_true_eq_false, not_false_eq_true, false_implies, true_implies, implies_true, Classical.not_not, and_self, cP, cP', ite_n]
  by_cases c1 : f < 0
  · rw [ite_t c1]; rw [ite_f (by omega)] at k; exact k
  rw [ite_f c1]
  by_cases c2 : f ≤ 99
  case neg => rw [ite_f c2]; rw [ite_f (by omega)] at k; exact k
  rw [ite_t c2]; rw [ite_t (by omega)] at k
  refine lf_for (W := fun n (b : Int32) r => wl_X11_storm_16 post n h 0 (iI f) b (iI r)) (lo := 0) (hi := rd h 94 2) (fun r b => b = foldI (bitsF (fun r => drvT (rd h 94) r f (iI 0))) r.toNat 0 (iI 0)) (by omega) ?_ ?_ (iI 0) rfl
  · intro m b r r1 r2 hb kk
    show wb_X11_storm_16 (wl_X11_storm_16 post m) h 0 (iI f) b (iI r) post
    unfold wb_X11_storm_16 wb_X11_storm_52
    simp (disch := omega) only [CSh.o0 S, CSh.o1 S, CSh.o2 S, CSh.o3 S, CSh.o26 S, CSh.o27 S, CSh.o29 S, CSh.o30 S, CSh.o31 S, CSh.o56 S, CSh.o57 S, CSh.o58 S, CSh.o62 S, CSh.o66 S, CSh.o70 S, CSh.o74 S, CSh.o75 S, CSh.o77 S, CSh.o79 S, CSh.o80 S, CSh.o81 S, CSh.o82 S, CSh.o83 S, CSh.o84 S, CSh.o85 S, CSh.o86 S, CSh.o87 S, CSh.o88 S, CSh.o53 S, CSh.o54 S, CSh.o55 S, CSh.o59 S, CSh.o60 S, CSh.o61 S, CSh.o63 S, CSh.o64 S, CSh.o65 S, CSh.o67 S, CSh.o68 S, CSh.o69 S, CSh.o71 S, CSh.o72 S, CSh.o73 S, CSh.o89 S, CSh.o90 S, CSh.o91 S, CSh.l1 S, CSh.l3 S, CSh.l27 S, CSh.l29 S, CSh.l30 S, CSh.l56 S, CSh.l57 S, CSh.l58 S, CSh.l75 S, CSh.l77 S, CSh.l79 S, CSh.l81 S, CSh.l82 S, CSh.l83 S, CSh.l84 S, CSh.l85 S, CSh.l86 S, CSh.l87 S, CSh.l88 S, CSh.l54 S, CSh.l55 S, CSh.l60 S, CSh.l61 S, CSh.l64 S, CSh.l65 S, CSh.l68 S, CSh.l69 S, CSh.l72 S, CSh.l73 S, CSh.l90 S, CSh.l91 S, CSh.p0_0 S, CSh.p0_3 S, CSh.p0_4 S, CSh.p0_5 S, CSh.p0_6 S, CSh.p0_7 S, CSh.p0_8 S, CSh.p0_9 S, CSh.p0_10 S, CSh.p0_14 S, CSh.p2_0 S, CSh.p26_0 S, CSh.p26_13 S, CSh.p26_14 S, CSh.p31_1 S, CSh.p31_3 S, CSh.p31_4 S, CSh.p62_0 S, CSh.p66_0 S, CSh.p70_0 S, CSh.p74_0 S, CSh.p74_1 S, CSh.p74_6 S, CSh.p74_7 S, CSh.p74_10 S, CSh.p80_1 S, CSh.p80_2 S, CSh.p80_3 S, CSh.p80_4 S, CSh.p80_5 S, CSh.p80_6 S, CSh.p80_7 S, CSh.p80_8 S, CSh.p53_1 S, CSh.p53_2 S, CSh.p59_1 S, CSh.p59_2 S, CSh.p63_1 S, CSh.p63_2 S, CSh.p67_1 S, CSh.p67_2 S, CSh.p71_1 S, CSh.p71_2 S, CSh.p89_1 S, CSh.p89_2 S, hp, LB.o0 H, LB.p2 H, LB.o1 H, LB.l1 H, LB.p3 H, LB.o2 H, LB.l2 H, LB.p4 H, LB.o3 H, LB.l3 H, LB.p6 H, LB.o4 H, LB.l4 H, LB.p7 H, LB.o5 H, LB.l5 H, LB.p8 H, LB.o6 H, LB.l6 H, LB.p9 H, LB.o7 H, LB.l7 H, LB.p10 H, LB.o8 H, LB.l8 H, LB.p12 H, LB.o9 H, LB.l9 H, LB.p14 H, LB.o10 H, LB.p15 H, LB.o16 H, LB.q10_1 H, LB.o11 H, LB.l11 H, LB.q10_2 H, LB.o12 H, LB.l12 H, LB.q10_3 H, LB.o13 H, LB.l13 H, LB.q10_4 H, LB.o14 H, LB.l14 H, LB.q10_5 H, LB.o15 H, LB.l15 H, LB.q16_1 H, LB.o17 H, LB.l17 H, LB.q16_2 H, LB.o18 H, LB.l18 H, LB.q16_3 H, LB.o19 H, LB.l19 H, LB.q16_4 H, LB.o20 H, LB.l20 H, fd0, fd1, fd2, fd3, fd4, fd5, fd6, fd7, fd8, fd9, fd10, fd11, fd12, fd13, fd14, fd15, fd16, fd17, fd18, fd19, fd20, fd21, fd22, fd23, fd24, fd25, fd26, fd27, fd28, fd29, fd30, fd31, fd32, fd33, fd34, fd35, fd36, fd37, fd38, fd39, fd40, fd41, fd42, fd43, fd44, fd45, fd46, fd47, fd48, fd49, fd50, fd51, fd52, LR.c5 L, -Int.reduceToNat, -Int32.reduceToNatClampNeg, il0, il1, il2, il3, il4, il5, il6, il7, il8, il9, il10, il11, il12, il13, il14, il15, il16, il17, il18, il19, il20, il21, il22, il23, il24, il25, il26, il27, il28, il29, il30, il31, il32, il35, il36, il38, il40, il42, il43, il44, il45, il46, il47, il48, il49, il50, il51, il52, il57, il59, il60, il63, il64, il75, il80, il95, il96, il97, il98, il99, il100, il120, il122, il123, il127, il128, il135, il167, il175, il225, il249, il250, il255, il256, il360, il370, il384, il600, il700, il740, il900, il940, il1024, il1600, il4800, il64000, il125000, il262143, il1000000000, iI_toInt, iI_add, iI_sub, iI_mul, iI_neg, iI_lt, iI_le, iI_eq, iI_n, iI_in, iI_div, iI_mod, iI_shm, iI_and1, iI_and7, iI_and63, iI_shr3, iI_shr6, rd_I, ob, Option.some.injEq, exists_eq_left', exists_eq_left, true_and, and_true, fqI, fqJ, eq_self, true_or, or_true, bP_0, bP_0i, npP, bP_1i, bP_b, not_true_eq_false, not_false_eq_true, false_implies, true_implies, implies_true, Classical.not_not, and_self, cP, cP', ite_n, ite_f]
    refine c_isDriven H L hG r1 r2 (by omega) c2 ?_
    simp (disch := omega) only [-Int.reduceToNat, -Int32.reduceToNatClampNeg, il0, il1, il2, il3, il4, il5, il6, il7, il8, il9, il10, il11, il12, il13, il14, il15, il16, il17, il18, il19, il20, il21, il22, il23, il24, il25, il26, il27, il28, il29, il30, il31, il32, il35, il36, il38, il40, il42, il43, il44, il45, il46, il47, il48, il49, il50, il51, il52, il57, il59, il60, il63, il64, il75, il80, il95, il96, il97, il98, il99, il100, il120, il122, il123, il127, il128, il135, il167, il175, il225, il249, il250, il255, il256, il360, il370, il384, il600, il700, il740, il900, il940, il1024, il1600, il4800, il64000, il125000, il262143, il1000000000, iI_toInt, iI_add, iI_sub, iI_mul, iI_neg, iI_lt, iI_le, iI_eq, iI_n, iI_in, iI_div, iI_mod, iI_shm, iI_and1, iI_and7, iI_and63, iI_shr3, iI_shr6, rd_I, ob, Option.some.injEq, exists_eq_left', exists_eq_left, true_and, and_true, fqI, fqJ, eq_self, true_or, or_true, bP_0, bP_0i, npP, bP_1i, bP_b, not_true_eq_false, not_false_eq_true, false_implies, true_implies, implies_true, Classical.not_not, and_self, cP, cP', ite_n]
    have e1 : (r + 1).toNat = r.toNat + 1 := by omega
    have e2 : (0 : Int) + (r.toNat : Int) = r := by omega
    by_cases c : drvT (rd h 94) r f (iI 0)
    · rw [ite_t c]
      refine kk _ ?_
      rw [e1, foldI_snoc, e2, ← hb]
      unfold bitsF
      rw [ite_t c]
    · rw [ite_f c]
      refine kk _ ?_
      rw [e1, foldI_snoc, e2, ← hb]
      unfold bitsF
      rw [ite_f c]
  · intro m b hb
    show wb_X11_storm_16 (wl_X11_storm_16 post m) h 0 (iI f) b (iI _) post
    unfold wb_X11_storm_16
    simp (disch := omega) only [CSh.o0 S, CSh.o1 S, CSh.o2 S, CSh.o3 S, CSh.o26 S, CSh.o27 S, CSh.o29 S, CSh.o30 S, CSh.o31 S, CSh.o56 S, CSh.o57 S, CSh.o58 S, CSh.o62 S, CSh.o66 S, CSh.o70 S, CSh.o74 S, CSh.o75 S, CSh.o77 S, CSh.o79 S, CSh.o80 S, CSh.o81 S, CSh.o82 S, CSh.o83 S, CSh.o84 S, CSh.o85 S, CSh.o86 S, CSh.o87 S, CSh.o88 S, CSh.o53 S, CSh.o54 S, CSh.o55 S, CSh.o59 S, CSh.o60 S, CSh.o61 S, CSh.o63 S, CSh.o64 S, CSh.o65 S, CSh.o67 S, CSh.o68 S, CSh.o69 S, CSh.o71 S, CSh.o72 S, CSh.o73 S, CSh.o89 S, CSh.o90 S, CSh.o91 S, CSh.l1 S, CSh.l3 S, CSh.l27 S, CSh.l29 S, CSh.l30 S, CSh.l56 S, CSh.l57 S, CSh.l58 S, CSh.l75 S, CSh.l77 S, CSh.l79 S, CSh.l81 S, CSh.l82 S, CSh.l83 S, CSh.l84 S, CSh.l85 S, CSh.l86 S, CSh.l87 S, CSh.l88 S, CSh.l54 S, CSh.l55 S, CSh.l60 S, CSh.l61 S, CSh.l64 S, CSh.l65 S, CSh.l68 S, CSh.l69 S, CSh.l72 S, CSh.l73 S, CSh.l90 S, CSh.l91 S, CSh.p0_0 S, CSh.p0_3 S, CSh.p0_4 S, CSh.p0_5 S, CSh.p0_6 S, CSh.p0_7 S, CSh.p0_8 S, CSh.p0_9 S, CSh.p0_10 S, CSh.p0_14 S, CSh.p2_0 S, CSh.p26_0 S, CSh.p26_13 S, CSh.p26_14 S, CSh.p31_1 S, CSh.p31_3 S, CSh.p31_4 S, CSh.p62_0 S, CSh.p66_0 S, CSh.p70_0 S, CSh.p74_0 S, CSh.p74_1 S, CSh.p74_6 S, CSh.p74_7 S, CSh.p74_10 S, CSh.p80_1 S, CSh.p80_2 S, CSh.p80_3 S, CSh.p80_4 S, CSh.p80_5 S, CSh.p80_6 S, CSh.p80_7 S, CSh.p80_8 S, CSh.p53_1 S, CSh.p53_2 S, CSh.p59_1 S, CSh.p59_2 S, CSh.p63_1 S, CSh.p63_2 S, CSh.p67_1 S, CSh.p67_2 S, CSh.p71_1 S, CSh.p71_2 S, CSh.p89_1 S, CSh.p89_2 S, hp, LB.o0 H, LB.p2 H, LB.o1 H, LB.l1 H, LB.p3 H, LB.o2 H, LB.l2 H, LB.p4 H, LB.o3 H, LB.l3 H, LB.p6 H, LB.o4 H, LB.l4 H, LB.p7 H, LB.o5 H, LB.l5 H, LB.p8 H, LB.o6 H, LB.l6 H, LB.p9 H, LB.o7 H, LB.l7 H, LB.p10 H, LB.o8 H, LB.l8 H, LB.p12 H, LB.o9 H, LB.l9 H, LB.p14 H, LB.o10 H, LB.p15 H, LB.o16 H, LB.q10_1 H, LB.o11 H, LB.l11 H, LB.q10_2 H, LB.o12 H, LB.l12 H, LB.q10_3 H, LB.o13 H, LB.l13 H, LB.q10_4 H, LB.o14 H, LB.l14 H, LB.q10_5 H, LB.o15 H, LB.l15 H, LB.q16_1 H, LB.o17 H, LB.l17 H, LB.q16_2 H, LB.o18 H, LB.l18 H, LB.q16_3 H, LB.o19 H, LB.l19 H, LB.q16_4 H, LB.o20 H, LB.l20 H, fd0, fd1, fd2, fd3, fd4, fd5, fd6, fd7, fd8, fd9, fd10, fd11, fd12, fd13, fd14, fd15, fd16, fd17, fd18, fd19, fd20, fd21, fd22, fd23, fd24, fd25, fd26, fd27, fd28, fd29, fd30, fd31, fd32, fd33, fd34, fd35, fd36, fd37, fd38, fd39, fd40, fd41, fd42, fd43, fd44, fd45, fd46, fd47, fd48, fd49, fd50, fd51, fd52, LR.c5 L, -Int.reduceToNat, -Int32.reduceToNatClampNeg, il0, il1, il2, il3, il4, il5, il6, il7, il8, il9, il10, il11, il12, il13, il14, il15, il16, il17, il18, il19, il20, il21, il22, il23, il24, il25, il26, il27, il28, il29, il30, il31, il32, il35, il36, il38, il40, il42, il43, il44, il45, il46, il47, il48, il49, il50, il51, il52, il57, il59, il60, il63, il64, il75, il80, il95, il96, il97, il98, il99, il100, il120, il122, il123, il127, il128, il135, il167, il175, il225, il249, il250, il255, il256, il360, il370, il384, il600, il700, il740, il900, il940, il1024, il1600, il4800, il64000, il125000, il262143, il1000000000, iI_toInt, iI_add, iI_sub, iI_mul, iI_neg, iI_lt, iI_le, iI_eq, iI_n, iI_in, iI_div, iI_mod, iI_shm, iI_and1, iI_and7, iI_and63, iI_shr3, iI_shr6, rd_I, ob, Option.some.injEq, exists_eq_left', exists_eq_left, true_and, and_true, fqI, fqJ, eq_self, true_or, or_true, bP_0, bP_0i, npP, bP_1i, bP_b, not_true_eq_false, not_false_eq_true, false_implies, true_implies, implies_true, Classical.not_not, and_self, cP, cP', ite_n, ite_T, ite_F, ite_t, ite_f]
    rw [hb]; exact k
theorem mX_storm (I : Inv h i la fr qa ac) (hf : -2147483648 ≤ f) (hf' : f < 2147483648) (k : ∀ h', Qt h h' → post h' (stmV (rd h 94) f)) : wp_X12_storm h 92 (iI f) post := by
  unfold wp_X12_storm
  refine ⟨I.m.o0, fun h1 e1 => ?_⟩
  obtain ⟨I1, q1, es, -⟩ := I.thr e1
  have k := k h1 q1
  rw [← es] at k
  have M := I1.m
  have hG := I1.ga
  have bd := hG.bd
  unfold stmV at k
  simp (disch := omega) only [-Int.reduceToNat, -Int32.reduceToNatClampNeg, il0, il1, il2, il3, il4, il5, il6, il7, il8, il9, il10, il11, il12, il13, il14, il15, il16, il17, il18, il19, il20, il21, il22, il23, il24, il25, il26, il27, il28, il29, il30, il31, il32, il35, il36, il38, il40, il42, il43, il44, il45, il46, il47, il48, il49, il50, il51, il52, il57, il59, il60, il63, il64, il75, il80, il95, il96, il97, il98, il99, il100, il120, il122, il123, il127, il128, il135, il167, il175, il225, il249, il250, il255, il256, il360, il370, il384, il600, il700, il740, il900, il940, il1024, il1600, il4800, il64000, il125000, il262143, il1000000000, iI_toInt, iI_add, iI_sub, iI_mul, iI_neg, iI_lt, iI_le, iI_eq, iI_n, iI_in, iI_div, iI_mod, iI_shm, iI_and1, iI_and7, iI_and63, iI_shr3, iI_shr6, rd_I, ob, Option.some.injEq, exists_eq_left', exists_eq_left, true_and, and_true, fqI, fqJ, eq_self, true_or, or_true, bP_0, bP_0i, npP, bP_1i, bP_b, not_true_eq_false, not_false_eq_true, false_implies, true_implies, implies_true, Classical.not_not, and_self, cP, cP', ite_n, m_isIn]
  by_cases c1 : 0 ≤ f ∧ f ≤ 99
  case neg => rw [ite_f c1]; rw [ite_f c1] at k; exact k
  rw [ite_t c1]; rw [ite_t c1] at k
  refine lf_for (W := fun n (b : Int32) r => wl_X12_storm_21 post n h1 92 (iI f) b (iI r)) (lo := 0) (hi := rd h1 94 2) (fun r b => b = foldI (bitsF (fun r => drvT (rd h1 94) r f (iI 0))) r.toNat 0 (iI 0)) (by omega) ?_ ?_ (iI 0) rfl
  · intro m b r r1 r2 hb kk
    show wb_X12_storm_21 (wl_X12_storm_21 post m) h1 92 (iI f) b (iI r) post
    unfold wb_X12_storm_21 wb_X12_storm_49
    simp (disch := omega) only [MSh.o0 M, MSh.p1 M, MSh.o1 M, MSh.l1 M, MSh.p6 M, MSh.o2 M, MSh.l2 M, MSh.p7 M, MSh.o3 M, MSh.l3 M, MSh.p8 M, MSh.o4 M, MSh.l4 M, MSh.p9 M, MSh.o5 M, MSh.l5 M, MSh.p10 M, MSh.o6 M, MSh.l6 M, MSh.p24 M, MSh.o7 M, MSh.l7 M, MSh.p25 M, MSh.o8 M, MSh.l8 M, MSh.p26 M, MSh.o9 M, MSh.l9 M, MSh.p32 M, MSh.o10 M, MSh.l10 M, MSh.p33 M, MSh.o11 M, MSh.l11 M, MSh.p35 M, MSh.o12 M, MSh.l12 M, MSh.p36 M, MSh.o13 M, MSh.l13 M, MSh.p37 M, MSh.o14 M, MSh.l14 M, MSh.p38 M, MSh.o15 M, MSh.l15 M, MSh.p39 M, MSh.o16 M, MSh.l16 M, MSh.p42 M, MSh.o17 M, MSh.l17 M, MSh.p43 M, MSh.o18 M, MSh.l18 M, MSh.p44 M, MSh.o19 M, MSh.l19 M, MSh.p45 M, MSh.o20 M, MSh.l20 M, MSh.p46 M, MSh.o21 M, MSh.l21 M, MSh.p47 M, MSh.o22 M, MSh.l22 M, MSh.p50 M, MSh.o23 M, MSh.l23 M, MSh.p51 M, MSh.o24 M, MSh.l24 M, MSh.p52 M, MSh.o25 M, MSh.l25 M, -Int.reduceToNat, -Int32.reduceToNatClampNeg, il0, il1, il2, il3, il4, il5, il6, il7, il8, il9, il10, il11, il12, il13, il14, il15, il16, il17, il18, il19, il20, il21, il22, il23, il24, il25, il26, il27, il28, il29, il30, il31, il32, il35, il36, il38, il40, il42, il43, il44, il45, il46, il47, il48, il49, il50, il51, il52, il57, il59, il60, il63, il64, il75, il80, il95, il96, il97, il98, il99, il100, il120, il122, il123, il127, il128, il135, il167, il175, il225, il249, il250, il255, il256, il360, il370, il384, il600, il700, il740, il900, il940, il1024, il1600, il4800, il64000, il125000, il262143, il1000000000, iI_toInt, iI_add, iI_sub, iI_mul, iI_neg, iI_lt, iI_le, iI_eq, iI_n, iI_in, iI_div, iI_mod, iI_shm, iI_and1, iI_and7, iI_and63, iI_shr3, iI_shr6, rd_I, ob, Option.some.injEq, exists_eq_left', exists_eq_left, true_and, and_true, fqI, fqJ, eq_self, true_or, or_true, bP_0, bP_0i, npP, bP_1i, bP_b, not_true_eq_false, not_false_eq_true, false_implies, true_implies, implies_true, Classical.not_not, and_self, cP, cP', ite_n, ite_f]
    refine m_isDriven M hG r1 r2 c1.1 c1.2 ?_
    simp (disch := omega) only [-Int.reduceToNat, -Int32.reduceToNatClampNeg, il0, il1, il2, il3, il4, il5, il6, il7, il8, il9, il10, il11, il12, il13, il14, il15, il16, il17, il18, il19, il20, il21, il22, il23, il24, il25, il26, il27, il28, il29, il30, il31, il32, il35, il36, il38, il40, il42, il43, il44, il45, il46, il47, il48, il49, il50, il51, il52, il57, il59, il60, il63, il64, il75, il80, il95, il96, il97, il98, il99, il100, il120, il122, il123, il127, il128, il135, il167, il175, il225, il249, il250, il255, il256, il360, il370, il384, il600, il700, il740, il900, il940, il1024, il1600, il4800, il64000, il125000, il262143, il1000000000, iI_toInt, iI_add, iI_sub, iI_mul, iI_neg, iI_lt, iI_le, iI_eq, iI_n, iI_in, iI_div, iI_mod, iI_shm, iI_and1, iI_and7, iI_and63, iI_shr3, iI_shr6, rd_I, ob, Option.some.injEq, exists_eq_left', exists_eq_left, true_and, and_true, fqI, fqJ, eq_self, true_or, or_true, bP_0, bP_0i, npP, bP_1i, bP_b, not_true_eq_false, not_false_eq_true, false_implies, true_implies, implies_true, Classical.not_not, and_self, cP, cP', ite_n, or0]
    have e1 : (r + 1).toNat = r.toNat + 1 := by omega
    have e2 : (0 : Int) + (r.toNat : Int) = r := by omega
    by_cases c : drvT (rd h1 94) r f (iI 0)
    · rw [ite_t c]
      refine kk _ ?_
      rw [e1, foldI_snoc, e2, ← hb]
      unfold bitsF
      rw [ite_t c]
    · rw [ite_f c]
      refine kk _ ?_
      rw [e1, foldI_snoc, e2, ← hb]
      unfold bitsF
      rw [ite_f c]
  · intro m b hb
    show wb_X12_storm_21 (wl_X12_storm_21 post m) h1 92 (iI f) b (iI _) post
    unfold wb_X12_storm_21
    simp (disch := omega) only [MSh.o0 M, MSh.p1 M, MSh.o1 M, MSh.l1 M, MSh.p6 M, MSh.o2 M, MSh.l2 M, MSh.p7 M, MSh.o3 M, MSh.l3 M, MSh.p8 M, MSh.o4 M, MSh.l4 M, MSh.p9 M, MSh.o5 M, MSh.l5 M, MSh.p10 M, MSh.o6 M, MSh.l6 M, MSh.p24 M, MSh.o7 M, MSh.l7 M, MSh.p25 M, MSh.o8 M, MSh.l8 M, MSh.p26 M, MSh.o9 M, MSh.l9 M, MSh.p32 M, MSh.o10 M, MSh.l10 M, MSh.p33 M, MSh.o11 M, MSh.l11 M, MSh.p35 M, MSh.o12 M, MSh.l12 M, MSh.p36 M, MSh.o13 M, MSh.l13 M, MSh.p37 M, MSh.o14 M, MSh.l14 M, MSh.p38 M, MSh.o15 M, MSh.l15 M, MSh.p39 M, MSh.o16 M, MSh.l16 M, MSh.p42 M, MSh.o17 M, MSh.l17 M, MSh.p43 M, MSh.o18 M, MSh.l18 M, MSh.p44 M, MSh.o19 M, MSh.l19 M, MSh.p45 M, MSh.o20 M, MSh.l20 M, MSh.p46 M, MSh.o21 M, MSh.l21 M, MSh.p47 M, MSh.o22 M, MSh.l22 M, MSh.p50 M, MSh.o23 M, MSh.l23 M, MSh.p51 M, MSh.o24 M, MSh.l24 M, MSh.p52 M, MSh.o25 M, MSh.l25 M, -Int.reduceToNat, -Int32.reduceToNatClampNeg, il0, il1, il2, il3, il4, il5, il6, il7, il8, il9, il10, il11, il12, il13, il14, il15, il16, il17, il18, il19, il20, il21, il22, il23, il24, il25, il26, il27, il28, il29, il30, il31, il32, il35, il36, il38, il40, il42, il43, il44, il45, il46, il47, il48, il49, il50, il51, il52, il57, il59, il60, il63, il64, il75, il80, il95, il96, il97, il98, il99, il100, il120, il122, il123, il127, il128, il135, il167, il175, il225, il249, il250, il255, il256, il360, il370, il384, il600, il700, il740, il900, il940, il1024, il1600, il4800, il64000, il125000, il262143, il1000000000, iI_toInt, iI_add, iI_sub, iI_mul, iI_neg, iI_lt, iI_le, iI_eq, iI_n, iI_in, iI_div, iI_mod, iI_shm, iI_and1, iI_and7, iI_and63, iI_shr3, iI_shr6, rd_I, ob, Option.some.injEq, exists_eq_left', exists_eq_left, true_and, and_true, fqI, fqJ, eq_self, true_or, or_true, bP_0, bP_0i, npP, bP_1i, bP_b, not_true_eq_false, not_false_eq_true, false_implies, true_implies, implies_true, Classical.not_not, and_self, cP, cP', ite_n, ite_T, ite_F, ite_t, ite_f]
    rw [hb]; exact k
end STORM
/-! ropes to be cut -/
def pcN (x : Nat) : Nat := x % 2 + x / 2 % 2 + x / 4 % 2 + x / 8 % 2 + x / 16 % 2 + x / 32 % 2 + x / 64 % 2 + x / 128 % 2
theorem pc_step : ∀ x : Nat, x < 256 → ¬ Int32.ofNat x = 0 → (Int32.ofNat x &&& (Int32.ofNat x - 1)) = Int32.ofNat (x &&& (x - 1)) ∧ (x &&& (x - 1)) < x ∧ pcN (x &&& (x - 1)) + 1 = pcN x := by decide +kernel
theorem pc_zero : ∀ x : Nat, x < 256 → Int32.ofNat x = 0 → pcN x = 0 := by decide +kernel
theorem pc_bd (x : Nat) : pcN x ≤ 8 := by unfold pcN; omega
def bcf (x : Int32) : Int32 :=
  (fun iv5 : Int32 => iv5 &&& (63 : Int32)) ((fun iv4 : Int32 => iv4 + ((iv4.toUInt32 >>> ((16 : Int32).toUInt32 &&& Int32.toUInt32 31)).toInt32)) ((fun iv3 : Int32 => iv3 + ((iv3.toUInt32 >>> ((8 : Int32).toUInt32 &&& Int32.toUInt32 31)).toInt32)) ((fun iv2 : Int32 => (iv2 + ((iv2.toUInt32 >>> ((4 : Int32).toUInt32 &&& Int32.toUInt32 31)).toInt32)) &&& (252645135 : Int32)) ((fun iv1 : Int32 => (iv1 &&& (858993459 : Int32)) + (((iv1.toUInt32 >>> ((2 : Int32).toUInt32 &&& Int32.toUInt32 31)).toInt32) &&& (858993459 : Int32))) (x - (((x.toUInt32 >>> ((1 : Int32).toUInt32 &&& Int32.toUInt32 31)).toInt32) &&& (1431655765 : Int32)))))))
theorem bcf_pc : ∀ x : Nat, x < 256 → bcf (Int32.ofNat x) = Int32.ofNat (pcN x) := by decide +kernel
def pcI (a : Int) : Int := pcN a.toNat
noncomputable def hldV (s : Int → Int) (a : Int) : Int := foldI (sumF (sb (iI a)) (fun k => s (135 + 4 * k + 3))) (s 4).toNat 0 0
noncomputable def cutF (s : Int → Int) (r f : Int) (a : Int) (v : Int × Int) : Int × Int := iteP ((v.1 < 0 ∨ hldV s a < v.2 ∨ (hldV s a = v.2 ∧ pcI a < pcI v.1)) ∧ ¬ drvT s r f (iI a)) (a, hldV s a) v
noncomputable def cutR (s : Int → Int) (r f : Int) : Int × Int := foldI (cutF s r f) ((2 : Int) ^ (s 4).toNat).toNat 0 (-1, 0)
noncomputable def cutV (s : Int → Int) (r f w : Int) : Int := iteP ((0 ≤ r ∧ r < s 2) ∧ (0 ≤ f ∧ f ≤ 99) ∧ 0 ≤ w ∧ w ≤ 1) (iteP ((cutR s r f).1 < 0) (-1) (iteP (w = 0) (cutR s r f).2 (cutR s r f).1)) (-1)
section CUT
variable {h h1 h2 : AH} {i la fr qa ac : Nat} {postV : AH → Prop} {post : AH → Int32 → Prop} {a b c d r x y n sp sq w hh u hr how one k f : Int} {s t z T : Int → Int} {cut : Int32}
theorem c_bitCount (h1 : 0 ≤ a) (h2 : a < 256) (k : post h (iI (pcI a))) : wp_J6_bitCount_0f7a4 h (iI a) post := by
  have e : bcf (iI a) = iI (pcI a) := by
    rw [iI_nat h1, bcf_pc _ (by omega)]
    unfold pcI
    rw [iI_nat (by omega)]
    congr 1
  unfold wp_J6_bitCount_0f7a4
  intro v1 e1 v2 e2 v3 e3 v4 e4 v5 e5
  subst e1 e2 e3 e4 e5
  rw [← e] at k
  exact k
theorem m_count1 (h1 : 0 ≤ a) (h2 : a < 256) (k : post h (iI (pcI a))) : wp_X12_count1 h (iI a) post := by
  have key : ∀ (d : Nat) (x : Nat), x ≤ d → x < 256 → ∀ c : Int, post h (iI (c + pcN x)) → ∃ n, wl_X12_count1_4 post n h (iI c) (Int32.ofNat x) := by
    intro d
    induction d with
    | zero =>
      intro x hx hx2 c kc
      have x0 : x = 0 := by omega
      subst x0
      refine ⟨1, ?_⟩
      show wb_X12_count1_4 (wl_X12_count1_4 post 0) h (iI c) (Int32.ofNat 0) post
      unfold wb_X12_count1_4
      refine ⟨fun _ => ?_, fun q => absurd rfl q⟩
      have : (c + (pcN 0 : Nat) : Int) = c := by show c + 0 = c; omega
      rw [this] at kc
      exact kc
    | succ d ih =>
      intro x hx hx2 c kc
      by_cases c0 : Int32.ofNat x = 0
      · refine ⟨1, ?_⟩
        show wb_X12_count1_4 (wl_X12_count1_4 post 0) h (iI c) (Int32.ofNat x) post
        unfold wb_X12_count1_4
        refine ⟨fun _ => ?_, fun q => absurd c0 q⟩
        rw [pc_zero x hx2 c0] at kc
        rw [show (c + (0 : Nat) : Int) = c by omega] at kc
        exact kc
      · obtain ⟨s1, s2, s3⟩ := pc_step x hx2 c0
        obtain ⟨n, hn⟩ := ih (x &&& (x - 1)) (by omega) (by omega) (c + 1) (by
          rw [show c + 1 + ((pcN (x &&& (x - 1)) : Nat) : Int) = c + (pcN x : Nat) by omega]
          exact kc)
        refine ⟨n + 1, ?_⟩
        show wb_X12_count1_4 (wl_X12_count1_4 post n) h (iI c) (Int32.ofNat x) post
        unfold wb_X12_count1_4
        refine ⟨fun q => absurd q c0, fun _ iv1 e1 iv2 e2 => ?_⟩
        rw [e1, e2, s1, il1, iI_add]
        exact hn
  unfold wp_X12_count1
  rw [iI_nat h1]
  refine key a.toNat a.toNat (Nat.le_refl _) (by omega) 0 ?_
  rw [Int.zero_add]
  exact k
theorem hld_bd (hG : GA s) (a : Int) : 0 ≤ hldV s a ∧ hldV s a ≤ 792 := by
  have bd := hG.bd
  have m := sum_bd (P := sb (iI a)) (w := fun k => s (135 + 4 * k + 3)) (m := 99) (by omega) (s 4).toNat (fun o o1 o2 => hG.sb (135 + 4 * o + 3) (by omega) (by omega))
  unfold hldV
  omega
theorem c_holdsOf (H : LB h la) (L : LR h la s) (hG : GA s) (k : post h (iI (hldV s a))) : wp_X4_holdsOf h (la + 10) (iI a) post := by
  have bd := hG.bd
  unfold wp_X4_holdsOf
  have key := lp_fold (W := fun n (b : Int) k => wl_X4_holdsOf_4 post n h (la + 10) (iI a) (iI b) (iI k)) (E := fun b => post h (iI b)) (f := sumF (sb (iI a)) (fun k => s (135 + 4 * k + 3))) (lo := 0) (hi := s 4) (fun _ _ => True) (by omega) (fun b i q => q) (fun n b k k1 k2 _ => ?_) (fun _ _ _ _ _ => trivial) (fun n b _ => ?_) 0 trivial
  · rw [Int.sub_zero] at key
    exact key.mpr k
  · show wb_X4_holdsOf_4 (wl_X4_holdsOf_4 post n) h (la + 10) (iI a) (iI b) (iI k) post ↔ _
    unfold wb_X4_holdsOf_4 wb_X4_holdsOf_29
    simp (disch := omega) only [LB.o0 H, LB.p2 H, LB.o1 H, LB.l1 H, LB.p3 H, LB.o2 H, LB.l2 H, LB.p4 H, LB.o3 H, LB.l3 H, LB.p6 H, LB.o4 H, LB.l4 H, LB.p7 H, LB.o5 H, LB.l5 H, LB.p8 H, LB.o6 H, LB.l6 H, LB.p9 H, LB.o7 H, LB.l7 H, LB.p10 H, LB.o8 H, LB.l8 H, LB.p12 H, LB.o9 H, LB.l9 H, LB.p14 H, LB.o10 H, LB.p15 H, LB.o16 H, LB.q10_1 H, LB.o11 H, LB.l11 H, LB.q10_2 H, LB.o12 H, LB.l12 H, LB.q10_3 H, LB.o13 H, LB.l13 H, LB.q10_4 H, LB.o14 H, LB.l14 H, LB.q10_5 H, LB.o15 H, LB.l15 H, LB.q16_1 H, LB.o17 H, LB.l17 H, LB.q16_2 H, LB.o18 H, LB.l18 H, LB.q16_3 H, LB.o19 H, LB.l19 H, LB.q16_4 H, LB.o20 H, LB.l20 H, fd0, fd1, fd2, fd3, fd4, fd5, fd6, fd7, fd8, fd9, fd10, fd11, fd12, fd13, fd14, fd15, fd16, fd17, fd18, fd19, fd20, fd21, fd22, fd23, fd24, fd25, fd26, fd27, fd28, fd29, fd30, fd31, fd32, fd33, fd34, fd35, fd36, fd37, fd38, fd39, fd40, fd41, fd42, fd43, fd44, fd45, fd46, fd47, fd48, fd49, fd50, fd51, fd52, LR.q0 L, LR.rh L, -Int.reduceToNat, -Int32.reduceToNatClampNeg, il0, il1, il2, il3, il4, il5, il6, il7, il8, il9, il10, il11, il12, il13, il14, il15, il16, il17, il18, il19, il20, il21, il22, il23, il24, il25, il26, il27, il28, il29, il30, il31, il32, il35, il36, il38, il40, il42, il43, il44, il45, il46, il47, il48, il49, il50, il51, il52, il57, il59, il60, il63, il64, il75, il80, il95, il96, il97, il98, il99, il100, il120, il122, il123, il127, il128, il135, il167, il175, il225, il249, il250, il255, il256, il360, il370, il384, il600, il700, il740, il900, il940, il1024, il1600, il4800, il64000, il125000, il262143, il1000000000, iI_toInt, iI_add, iI_sub, iI_mul, iI_neg, iI_lt, iI_le, iI_eq, iI_n, iI_in, iI_div, iI_mod, iI_shm, iI_and1, iI_and7, iI_and63, iI_shr3, iI_shr6, rd_I, ob, Option.some.injEq, exists_eq_left', exists_eq_left, true_and, and_true, fqI, fqJ, eq_self, true_or, or_true, bP_0, bP_0i, npP, bP_1i, bP_b, not_true_eq_false, not_false_eq_true, false_implies, true_implies, implies_true, Classical.not_not, and_self, cP, cP', ite_n, ite_f, sb_0]
    unfold sumF
    by_cases c1 : sb (iI a) k
    · rw [ite_t c1, ite_t c1]
    · rw [ite_f c1, ite_f c1]
  · show wb_X4_holdsOf_4 (wl_X4_holdsOf_4 post n) h (la + 10) (iI a) (iI b) (iI _) post ↔ _
    unfold wb_X4_holdsOf_4
    simp (disch := omega) only [LB.o0 H, LB.p2 H, LB.o1 H, LB.l1 H, LB.p3 H, LB.o2 H, LB.l2 H, LB.p4 H, LB.o3 H, LB.l3 H, LB.p6 H, LB.o4 H, LB.l4 H, LB.p7 H, LB.o5 H, LB.l5 H, LB.p8 H, LB.o6 H, LB.l6 H, LB.p9 H, LB.o7 H, LB.l7 H, LB.p10 H, LB.o8 H, LB.l8 H, LB.p12 H, LB.o9 H, LB.l9 H, LB.p14 H, LB.o10 H, LB.p15 H, LB.o16 H, LB.q10_1 H, LB.o11 H, LB.l11 H, LB.q10_2 H, LB.o12 H, LB.l12 H, LB.q10_3 H, LB.o13 H, LB.l13 H, LB.q10_4 H, LB.o14 H, LB.l14 H, LB.q10_5 H, LB.o15 H, LB.l15 H, LB.q16_1 H, LB.o17 H, LB.l17 H, LB.q16_2 H, LB.o18 H, LB.l18 H, LB.q16_3 H, LB.o19 H, LB.l19 H, LB.q16_4 H, LB.o20 H, LB.l20 H, fd0, fd1, fd2, fd3, fd4, fd5, fd6, fd7, fd8, fd9, fd10, fd11, fd12, fd13, fd14, fd15, fd16, fd17, fd18, fd19, fd20, fd21, fd22, fd23, fd24, fd25, fd26, fd27, fd28, fd29, fd30, fd31, fd32, fd33, fd34, fd35, fd36, fd37, fd38, fd39, fd40, fd41, fd42, fd43, fd44, fd45, fd46, fd47, fd48, fd49, fd50, fd51, fd52, LR.q0 L, -Int.reduceToNat, -Int32.reduceToNatClampNeg, il0, il1, il2, il3, il4, il5, il6, il7, il8, il9, il10, il11, il12, il13, il14, il15, il16, il17, il18, il19, il20, il21, il22, il23, il24, il25, il26, il27, il28, il29, il30, il31, il32, il35, il36, il38, il40, il42, il43, il44, il45, il46, il47, il48, il49, il50, il51, il52, il57, il59, il60, il63, il64, il75, il80, il95, il96, il97, il98, il99, il100, il120, il122, il123, il127, il128, il135, il167, il175, il225, il249, il250, il255, il256, il360, il370, il384, il600, il700, il740, il900, il940, il1024, il1600, il4800, il64000, il125000, il262143, il1000000000, iI_toInt, iI_add, iI_sub, iI_mul, iI_neg, iI_lt, iI_le, iI_eq, iI_n, iI_in, iI_div, iI_mod, iI_shm, iI_and1, iI_and7, iI_and63, iI_shr3, iI_shr6, rd_I, ob, Option.some.injEq, exists_eq_left', exists_eq_left, true_and, and_true, fqI, fqJ, eq_self, true_or, or_true, bP_0, bP_0i, npP, bP_1i, bP_b, not_true_eq_false, not_false_eq_true, false_implies, true_implies, implies_true, Classical.not_not, and_self, cP, cP', ite_n, ite_T, ite_F, ite_t, ite_f]
theorem p2_bd (hG : GA s) : 1 ≤ (2 : Int) ^ (s 4).toNat ∧ (2 : Int) ^ (s 4).toNat ≤ 256 := by
  have bd := hG.bd
  have : ∀ n : Nat, n < 9 → 1 ≤ (2 : Int) ^ n ∧ (2 : Int) ^ n ≤ 256 := by decide
  exact this _ (by omega)
theorem cut_inv (hG : GA s) : ∀ (d : Nat), d ≤ 256 → -1 ≤ (foldI (cutF s r f) d 0 (-1, 0)).1 ∧ (foldI (cutF s r f) d 0 (-1, 0)).1 < 256 ∧ 0 ≤ (foldI (cutF s r f) d 0 (-1, 0)).2 ∧ (foldI (cutF s r f) d 0 (-1, 0)).2 ≤ 792 ∧ (0 ≤ (foldI (cutF s r f) d 0 (-1, 0)).1 → (foldI (cutF s r f) d 0 (-1, 0)).2 = hldV s (foldI (cutF s r f) d 0 (-1, 0)).1) := by
  intro d
  induction d with
  | zero => intro _; exact ⟨Int.le_refl _, by show (-1 : Int) < 256; decide, by show (0 : Int) ≤ 0; decide, by show (0 : Int) ≤ 792; decide, fun q => absurd (show (0 : Int) ≤ -1 from q) (by decide)⟩
  | succ d ih =>
    intro hd
    have ih := ih (by omega)
    have hb := hld_bd hG d
    rw [foldI_snoc, Int.zero_add]
    generalize foldI (cutF s r f) d 0 (-1, 0) = v at ih
    unfold cutF
    by_cases c : (v.1 < 0 ∨ hldV s d < v.2 ∨ (hldV s d = v.2 ∧ pcI d < pcI v.1)) ∧ ¬ drvT s r f (iI d)
    · rw [ite_t c]
      exact ⟨by show (-1 : Int) ≤ d; omega, by show (d : Int) < 256; omega, hb.1, hb.2, fun _ => rfl⟩
    · rw [ite_f c]; exact ih
theorem c_leastCut (H : LB h la) (L : LR h la s) (hG : GA s) (h1 : 0 ≤ r) (h2 : r < s 2) (h3 : 0 ≤ f) (h4 : f ≤ 99) (k : post h (iI (cutR s r f).1)) : wp_X1_leastCut h la (iI r) (iI f) post := by
  have bd := hG.bd
  have pb := p2_bd hG
  unfold wp_X1_leastCut
  simp (disch := omega) only [-Int.reduceToNat, -Int32.reduceToNatClampNeg, il0, il1, il2, il3, il4, il5, il6, il7, il8, il9, il10, il11, il12, il13, il14, il15, il16, il17, il18, il19, il20, il21, il22, il23, il24, il25, il26, il27, il28, il29, il30, il31, il32, il35, il36, il38, il40, il42, il43, il44, il45, il46, il47, il48, il49, il50, il51, il52, il57, il59, il60, il63, il64, il75, il80, il95, il96, il97, il98, il99, il100, il120, il122, il123, il127, il128, il135, il167, il175, il225, il249, il250, il255, il256, il360, il370, il384, il600, il700, il740, il900, il940, il1024, il1600, il4800, il64000, il125000, il262143, il1000000000, iI_toInt, iI_add, iI_sub, iI_mul, iI_neg, iI_lt, iI_le, iI_eq, iI_n, iI_in, iI_div, iI_mod, iI_shm, iI_and1, iI_and7, iI_and63, iI_shr3, iI_shr6, rd_I, ob, Option.some.injEq, exists_eq_left', exists_eq_left, true_and, and_true, fqI, fqJ, eq_self, true_or, or_true, bP_0, bP_0i, npP, bP_1i, bP_b, not_true_eq_false, not_false_eq_true, false_implies, true_implies, implies_true, Classical.not_not, and_self]
  refine lf_for (W := fun n (v : Int × Int) a => wl_X1_leastCut_8 post n h la (iI r) (iI f) (iI v.1) (iI v.2) (iI a)) (lo := 0) (hi := (2 : Int) ^ (s 4).toNat) (fun a v => v = foldI (cutF s r f) a.toNat 0 (-1, 0)) (by omega) ?_ ?_ (-1, 0) rfl
  · intro m v a a1 a2 hv kk
    have ci := cut_inv (r := r) (f := f) hG a.toNat (by omega)
    rw [← hv] at ci
    have hb := hld_bd hG a
    show wb_X1_leastCut_8 (wl_X1_leastCut_8 post m) h la (iI r) (iI f) (iI v.1) (iI v.2) (iI a) post
    unfold wb_X1_leastCut_8 wb_X1_leastCut_63 wb_X1_leastCut_67 wb_X1_leastCut_68 wb_X1_leastCut_93
    simp (disch := omega) only [LB.o0 H, LB.p2 H, LB.o1 H, LB.l1 H, LB.p3 H, LB.o2 H, LB.l2 H, LB.p4 H, LB.o3 H, LB.l3 H, LB.p6 H, LB.o4 H, LB.l4 H, LB.p7 H, LB.o5 H, LB.l5 H, LB.p8 H, LB.o6 H, LB.l6 H, LB.p9 H, LB.o7 H, LB.l7 H, LB.p10 H, LB.o8 H, LB.l8 H, LB.p12 H, LB.o9 H, LB.l9 H, LB.p14 H, LB.o10 H, LB.p15 H, LB.o16 H, LB.q10_1 H, LB.o11 H, LB.l11 H, LB.q10_2 H, LB.o12 H, LB.l12 H, LB.q10_3 H, LB.o13 H, LB.l13 H, LB.q10_4 H, LB.o14 H, LB.l14 H, LB.q10_5 H, LB.o15 H, LB.l15 H, LB.q16_1 H, LB.o17 H, LB.l17 H, LB.q16_2 H, LB.o18 H, LB.l18 H, LB.q16_3 H, LB.o19 H, LB.l19 H, LB.q16_4 H, LB.o20 H, LB.l20 H, fd0, fd1, fd2, fd3, fd4, fd5, fd6, fd7, fd8, fd9, fd10, fd11, fd12, fd13, fd14, fd15, fd16, fd17, fd18, fd19, fd20, fd21, fd22, fd23, fd24, fd25, fd26, fd27, fd28, fd29, fd30, fd31, fd32, fd33, fd34, fd35, fd36, fd37, fd38, fd39, fd40, fd41, fd42, fd43, fd44, fd45, fd46, fd47, fd48, fd49, fd50, fd51, fd52, LR.q0 L, -Int.reduceToNat, -Int32.reduceToNatClampNeg, il0, il1, il2, il3, il4, il5, il6, il7, il8, il9, il10, il11, il12, il13, il14, il15, il16, il17, il18, il19, il20, il21, il22, il23, il24, il25, il26, il27, il28, il29, il30, il31, il32, il35, il36, il38, il40, il42, il43, il44, il45, il46, il47, il48, il49, il50, il51, il52, il57, il59, il60, il63, il64, il75, il80, il95, il96, il97, il98, il99, il100, il120, il122, il123, il127, il128, il135, il167, il175, il225, il249, il250, il255, il256, il360, il370, il384, il600, il700, il740, il900, il940, il1024, il1600, il4800, il64000, il125000, il262143, il1000000000, iI_toInt, iI_add, iI_sub, iI_mul, iI_neg, iI_lt, iI_le, iI_eq, iI_n, iI_in, iI_div, iI_mod, iI_shm, iI_and1, iI_and7, iI_and63, iI_shr3, iI_shr6, rd_I, iI_shl1, ob, Option.some.injEq, exists_eq_left', exists_eq_left, true_and, and_true, fqI, fqJ, eq_self, true_or, or_true, bP_0, bP_0i, npP, bP_1i, bP_b, not_true_eq_false, not_false_eq_true, false_implies, true_implies, implies_true, Classical.not_not, and_self, cP, cP', ite_n, ite_f]
    refine c_holdsOf H L hG ?_
    simp (disch := omega) only [-Int.reduceToNat, -Int32.reduceToNatClampNeg, il0, il1, il2, il3, il4, il5, il6, il7, il8, il9, il10, il11, il12, il13, il14, il15, il16, il17, il18, il19, il20, il21, il22, il23, il24, il25, il26, il27, il28, il29, il30, il31, il32, il35, il36, il38, il40, il42, il43, il44, il45, il46, il47, il48, il49, il50, il51, il52, il57, il59, il60, il63, il64, il75, il80, il95, il96, il97, il98, il99, il100, il120, il122, il123, il127, il128, il135, il167, il175, il225, il249, il250, il255, il256, il360, il370, il384, il600, il700, il740, il900, il940, il1024, il1600, il4800, il64000, il125000, il262143, il1000000000, iI_toInt, iI_add, iI_sub, iI_mul, iI_neg, iI_lt, iI_le, iI_eq, iI_n, iI_in, iI_div, iI_mod, iI_shm, iI_and1, iI_and7, iI_and63, iI_shr3, iI_shr6, rd_I, ob, Option.some.injEq, exists_eq_left', exists_eq_left, true_and, and_true, fqI, fqJ, eq_self, true_or, or_true, bP_0, bP_0i, npP, bP_1i, bP_b, not_true_eq_false, not_false_eq_true, false_implies, true_implies, implies_true, Classical.not_not, and_self, cP, cP', ite_n]
    have e1 : (a + 1).toNat = a.toNat + 1 := by omega
    have e2 : (0 : Int) + (a.toNat : Int) = a := by omega
    have fin : ∀ v' : Int × Int, v' = cutF s r f a v → wl_X1_leastCut_8 post m h la (iI r) (iI f) (iI v'.1) (iI v'.2) (iI (a + 1)) := fun v' q => kk v' (by rw [q, hv, e1, foldI_snoc, e2])
    have yes : (v.1 < 0 ∨ hldV s a < v.2 ∨ (hldV s a = v.2 ∧ pcI a < pcI v.1)) → wp_X1_isDriven h la (iI r) (iI f) (iI a) (fun hv1 iv2 => iteP (iv2 = iI 0) (wl_X1_leastCut_8 post m hv1 la (iI r) (iI f) (iI a) (iI (hldV s a)) (iI (a + 1))) (wl_X1_leastCut_8 post m hv1 la (iI r) (iI f) (iI v.1) (iI v.2) (iI (a + 1)))) := by
      intro q
      refine c_isDriven H L hG h1 h2 h3 h4 ?_
      rw [bP_0i]
      by_cases cd : drvT s r f (iI a)
      · rw [ite_f (fun q => q cd)]
        exact fin v (by unfold cutF; rw [ite_f (fun q => q.2 cd)])
      · rw [ite_t cd]
        exact fin (a, hldV s a) (by unfold cutF; rw [ite_t ⟨q, cd⟩])
    have no : ¬ (v.1 < 0 ∨ hldV s a < v.2 ∨ (hldV s a = v.2 ∧ pcI a < pcI v.1)) → wl_X1_leastCut_8 post m h la (iI r) (iI f) (iI v.1) (iI v.2) (iI (a + 1)) := fun q => fin v (by unfold cutF; rw [ite_f (fun p => q p.1)])
    by_cases c1 : v.1 < 0
    · rw [ite_t c1]
      exact ⟨H.o0, yes (Or.inl c1)⟩
    rw [ite_f c1]
    by_cases c2 : hldV s a < v.2
    · rw [ite_t c2]
      exact ⟨H.o0, yes (Or.inr (Or.inl c2))⟩
    rw [ite_f c2]
    by_cases c3 : hldV s a = v.2
    case neg =>
      rw [ite_f c3]
      exact no (by omega)
    rw [ite_t c3]
    refine c_bitCount a1 (by omega) (c_bitCount (by omega) (by omega) ?_)
    have p1 := pc_bd a.toNat
    have p2 := pc_bd v.1.toNat
    have q1 : 0 ≤ pcI a ∧ pcI a ≤ 8 := by unfold pcI; omega
    have q2 : 0 ≤ pcI v.1 ∧ pcI v.1 ≤ 8 := by unfold pcI; omega
    simp (disch := omega) only [-Int.reduceToNat, -Int32.reduceToNatClampNeg, il0, il1, il2, il3, il4, il5, il6, il7, il8, il9, il10, il11, il12, il13, il14, il15, il16, il17, il18, il19, il20, il21, il22, il23, il24, il25, il26, il27, il28, il29, il30, il31, il32, il35, il36, il38, il40, il42, il43, il44, il45, il46, il47, il48, il49, il50, il51, il52, il57, il59, il60, il63, il64, il75, il80, il95, il96, il97, il98, il99, il100, il120, il122, il123, il127, il128, il135, il167, il175, il225, il249, il250, il255, il256, il360, il370, il384, il600, il700, il740, il900, il940, il1024, il1600, il4800, il64000, il125000, il262143, il1000000000, iI_toInt, iI_add, iI_sub, iI_mul, iI_neg, iI_lt, iI_le, iI_eq, iI_n, iI_in, iI_div, iI_mod, iI_shm, iI_and1, iI_and7, iI_and63, iI_shr3, iI_shr6, rd_I, ob, Option.some.injEq, exists_eq_left', exists_eq_left, true_and, and_true, fqI, fqJ, eq_self, true_or, or_true, bP_0, bP_0i, npP, bP_1i, bP_b, not_true_eq_false, not_false_eq_true, false_implies, true_implies, implies_true, Classical.not_not, and_self, cP, cP', ite_n]
    by_cases c4 : pcI v.1 ≤ pcI a
    · rw [ite_t c4]
      exact no (by omega)
    · rw [ite_f c4]
      exact ⟨H.o0, yes (Or.inr (Or.inr ⟨c3, by omega⟩))⟩
  · intro m v hv
    show wb_X1_leastCut_8 (wl_X1_leastCut_8 post m) h la (iI r) (iI f) (iI v.1) (iI v.2) (iI _) post
    unfold wb_X1_leastCut_8
    simp (disch := omega) only [LB.o0 H, LB.p2 H, LB.o1 H, LB.l1 H, LB.p3 H, LB.o2 H, LB.l2 H, LB.p4 H, LB.o3 H, LB.l3 H, LB.p6 H, LB.o4 H, LB.l4 H, LB.p7 H, LB.o5 H, LB.l5 H, LB.p8 H, LB.o6 H, LB.l6 H, LB.p9 H, LB.o7 H, LB.l7 H, LB.p10 H, LB.o8 H, LB.l8 H, LB.p12 H, LB.o9 H, LB.l9 H, LB.p14 H, LB.o10 H, LB.p15 H, LB.o16 H, LB.q10_1 H, LB.o11 H, LB.l11 H, LB.q10_2 H, LB.o12 H, LB.l12 H, LB.q10_3 H, LB.o13 H, LB.l13 H, LB.q10_4 H, LB.o14 H, LB.l14 H, LB.q10_5 H, LB.o15 H, LB.l15 H, LB.q16_1 H, LB.o17 H, LB.l17 H, LB.q16_2 H, LB.o18 H, LB.l18 H, LB.q16_3 H, LB.o19 H, LB.l19 H, LB.q16_4 H, LB.o20 H, LB.l20 H, fd0, fd1, fd2, fd3, fd4, fd5, fd6, fd7, fd8, fd9, fd10, fd11, fd12, fd13, fd14, fd15, fd16, fd17, fd18, fd19, fd20, fd21, fd22, fd23, fd24, fd25, fd26, fd27, fd28, fd29, fd30, fd31, fd32, fd33, fd34, fd35, fd36, fd37, fd38, fd39, fd40, fd41, fd42, fd43, fd44, fd45, fd46, fd47, fd48, fd49, fd50, fd51, fd52, LR.q0 L, -Int.reduceToNat, -Int32.reduceToNatClampNeg, il0, il1, il2, il3, il4, il5, il6, il7, il8, il9, il10, il11, il12, il13, il14, il15, il16, il17, il18, il19, il20, il21, il22, il23, il24, il25, il26, il27, il28, il29, il30, il31, il32, il35, il36, il38, il40, il42, il43, il44, il45, il46, il47, il48, il49, il50, il51, il52, il57, il59, il60, il63, il64, il75, il80, il95, il96, il97, il98, il99, il100, il120, il122, il123, il127, il128, il135, il167, il175, il225, il249, il250, il255, il256, il360, il370, il384, il600, il700, il740, il900, il940, il1024, il1600, il4800, il64000, il125000, il262143, il1000000000, iI_toInt, iI_add, iI_sub, iI_mul, iI_neg, iI_lt, iI_le, iI_eq, iI_n, iI_in, iI_div, iI_mod, iI_shm, iI_and1, iI_and7, iI_and63, iI_shr3, iI_shr6, rd_I, iI_shl1, ob, Option.some.injEq, exists_eq_left', exists_eq_left, true_and, and_true, fqI, fqJ, eq_self, true_or, or_true, bP_0, bP_0i, npP, bP_1i, bP_b, not_true_eq_false, not_false_eq_true, false_implies, true_implies, implies_true, Classical.not_not, and_self, cP, cP', ite_n, ite_t]
    rw [hv]
    exact k
theorem cX_cut (I : Inv h i la fr qa ac) (hr1 : -2147483648 ≤ r) (hr2 : r < 2147483648) (hf : -2147483648 ≤ f) (hf' : f < 2147483648) (hw : -2147483648 ≤ w) (hw' : w < 2147483648) (k : post h (iI (cutV (rd h 94) r f w))) : wp_X11_cut h 0 (iI r) (iI f) (iI w) post := by
  obtain ⟨S, M, hl, hp, H, L, T, hG, hZ⟩ := I.core
  have bd := hG.bd
  unfold wp_X11_cut
  unfold cutV at k
  simp (disch := omega) only [CSh.o0 S, CSh.o1 S, CSh.o2 S, CSh.o3 S, CSh.o26 S, CSh.o27 S, CSh.o29 S, CSh.o30 S, CSh.o31 S, CSh.o56 S, CSh.o57 S, CSh.o58 S, CSh.o62 S, CSh.o66 S, CSh.o70 S, CSh.o74 S, CSh.o75 S, CSh.o77 S, CSh.o79 S, CSh.o80 S, CSh.o81 S, CSh.o82 S, CSh.o83 S, CSh.o84 S, CSh.o85 S, CSh.o86 S, CSh.o87 S, CSh.o88 S, CSh.o53 S, CSh.o54 S, CSh.o55 S, CSh.o59 S, CSh.o60 S, CSh.o61 S, CSh.o63 S, CSh.o64 S, CSh.o65 S, CSh.o67 S, CSh.o68 S, CSh.o69 S, CSh.o71 S, CSh.o72 S, CSh.o73 S, CSh.o89 S, CSh.o90 S, CSh.o91 S, CSh.l1 S, CSh.l3 S, CSh.l27 S, CSh.l29 S, CSh.l30 S, CSh.l56 S, CSh.l57 S, CSh.l58 S, CSh.l75 S, CSh.l77 S, CSh.l79 S, CSh.l81 S, CSh.l82 S, CSh.l83 S, CSh.l84 S, CSh.l85 S, CSh.l86 S, CSh.l87 S, CSh.l88 S, CSh.l54 S, CSh.l55 S, CSh.l60 S, CSh.l61 S, CSh.l64 S, CSh.l65 S, CSh.l68 S, CSh.l69 S, CSh.l72 S, CSh.l73 S, CSh.l90 S, CSh.l91 S, CSh.p0_0 S, CSh.p0_3 S, CSh.p0_4 S, CSh.p0_5 S, CSh.p0_6 S, CSh.p0_7 S, CSh.p0_8 S, CSh.p0_9 S, CSh.p0_10 S, CSh.p0_14 S, CSh.p2_0 S, CSh.p26_0 S, CSh.p26_13 S, CSh.p26_14 S, CSh.p31_1 S, CSh.p31_3 S, CSh.p31_4 S, CSh.p62_0 S, CSh.p66_0 S, CSh.p70_0 S, CSh.p74_0 S, CSh.p74_1 S, CSh.p74_6 S, CSh.p74_7 S, CSh.p74_10 S, CSh.p80_1 S, CSh.p80_2 S, CSh.p80_3 S, CSh.p80_4 S, CSh.p80_5 S, CSh.p80_6 S, CSh.p80_7 S, CSh.p80_8 S, CSh.p53_1 S, CSh.p53_2 S, CSh.p59_1 S, CSh.p59_2 S, CSh.p63_1 S, CSh.p63_2 S, CSh.p67_1 S, CSh.p67_2 S, CSh.p71_1 S, CSh.p71_2 S, CSh.p89_1 S, CSh.p89_2 S, hp, LB.o0 H, LB.p2 H, LB.o1 H, LB.l1 H, LB.p3 H, LB.o2 H, LB.l2 H, LB.p4 H, LB.o3 H, LB.l3 H, LB.p6 H, LB.o4 H, LB.l4 H, LB.p7 H, LB.o5 H, LB.l5 H, LB.p8 H, LB.o6 H, LB.l6 H, LB.p9 H, LB.o7 H, LB.l7 H, LB.p10 H, LB.o8 H, LB.l8 H, LB.p12 H, LB.o9 H, LB.l9 H, LB.p14 H, LB.o10 H, LB.p15 H, LB.o16 H, LB.q10_1 H, LB.o11 H, LB.l11 H, LB.q10_2 H, LB.o12 H, LB.l12 H, LB.q10_3 H, LB.o13 H, LB.l13 H, LB.q10_4 H, LB.o14 H, LB.l14 H, LB.q10_5 H, LB.o15 H, LB.l15 H, LB.q16_1 H, LB.o17 H, LB.l17 H, LB.q16_2 H, LB.o18 H, LB.l18 H, LB.q16_3 H, LB.o19 H, LB.l19 H, LB.q16_4 H, LB.o20 H, LB.l20 H, -Int.reduceToNat, -Int32.reduceToNatClampNeg, il0, il1, il2, il3, il4, il5, il6, il7, il8, il9, il10, il11, il12, il13, il14, il15, il16, il17, il18, il19, il20, il21, il22, il23, il24, il25, il26, il27, il28, il29, il30, il31, il32, il35, il36, il38, il40, il42, il43, il44, il45, il46, il47, il48, il49, il50, il51, il52, il57, il59, il60, il63, il64, il75, il80, il95, il96, il97, il98, il99, il100, il120, il122, il123, il127, il128, il135, il167, il175, il225, il249, il250, il255, il256, il360, il370, il384, il600, il700, il740, il900, il940, il1024, il1600, il4800, il64000, il125000, il262143, il1000000000, iI_toInt, iI_add, iI_sub, iI_mul, iI_neg, iI_lt, iI_le, iI_eq, iI_n, iI_in, iI_div, iI_mod, iI_shm, iI_and1, iI_and7, iI_and63, iI_shr3, iI_shr6, rd_I, ob, Option.some.injEq, exists_eq_left', exists_eq_left, true_and, and_true, fqI, fqJ, eq_self, true_or, or_true, bP_0, bP_0i, npP, bP_1i, bP_b, not_true_eq_false, not_false_eq_true, false_implies, true_implies, implies_true, Classical.not_not, and_self, cP, cP', ite_n, c_isRaft I]
  by_cases c1 : 0 ≤ r ∧ r < rd h 94 2
  case neg => rw [ite_f c1]; rw [ite_f (fun q => c1 q.1)] at k; exact k
  rw [ite_t c1]
  by_cases c2 : f < 0
  · rw [ite_t c2]; rw [ite_f (by omega)] at k; exact k
  rw [ite_f c2]
  by_cases c3 : 99 < f
  · rw [ite_t c3]; rw [ite_f (by omega)] at k; exact k
  rw [ite_f c3]
  by_cases c4 : w < 0
  · rw [ite_t c4]; rw [ite_f (by omega)] at k; exact k
  rw [ite_f c4]
  by_cases c5 : w ≤ 1
  case neg => rw [ite_f c5]; rw [ite_f (by omega)] at k; exact k
  rw [ite_t c5]
  rw [ite_t (by omega)] at k
  refine c_leastCut H L hG c1.1 c1.2 (by omega) (by omega) ?_
  have pb := p2_bd hG
  have ci := cut_inv (r := r) (f := f) hG ((2 : Int) ^ (rd h 94 4).toNat).toNat (by omega)
  have e : foldI (cutF (rd h 94) r f) ((2 : Int) ^ (rd h 94 4).toNat).toNat 0 (-1, 0) = cutR (rd h 94) r f := rfl
  rw [e] at ci
  simp (disch := omega) only [CSh.o0 S, CSh.o1 S, CSh.o2 S, CSh.o3 S, CSh.o26 S, CSh.o27 S, CSh.o29 S, CSh.o30 S, CSh.o31 S, CSh.o56 S, CSh.o57 S, CSh.o58 S, CSh.o62 S, CSh.o66 S, CSh.o70 S, CSh.o74 S, CSh.o75 S, CSh.o77 S, CSh.o79 S, CSh.o80 S, CSh.o81 S, CSh.o82 S, CSh.o83 S, CSh.o84 S, CSh.o85 S, CSh.o86 S, CSh.o87 S, CSh.o88 S, CSh.o53 S, CSh.o54 S, CSh.o55 S, CSh.o59 S, CSh.o60 S, CSh.o61 S, CSh.o63 S, CSh.o64 S, CSh.o65 S, CSh.o67 S, CSh.o68 S, CSh.o69 S, CSh.o71 S, CSh.o72 S, CSh.o73 S, CSh.o89 S, CSh.o90 S, CSh.o91 S, CSh.l1 S, CSh.l3 S, CSh.l27 S, CSh.l29 S, CSh.l30 S, CSh.l56 S, CSh.l57 S, CSh.l58 S, CSh.l75 S, CSh.l77 S, CSh.l79 S, CSh.l81 S, CSh.l82 S, CSh.l83 S, CSh.l84 S, CSh.l85 S, CSh.l86 S, CSh.l87 S, CSh.l88 S, CSh.l54 S, CSh.l55 S, CSh.l60 S, CSh.l61 S, CSh.l64 S, CSh.l65 S, CSh.l68 S, CSh.l69 S, CSh.l72 S, CSh.l73 S, CSh.l90 S, CSh.l91 S, CSh.p0_0 S, CSh.p0_3 S, CSh.p0_4 S, CSh.p0_5 S, CSh.p0_6 S, CSh.p0_7 S, CSh.p0_8 S, CSh.p0_9 S, CSh.p0_10 S, CSh.p0_14 S, CSh.p2_0 S, CSh.p26_0 S, CSh.p26_13 S, CSh.p26_14 S, CSh.p31_1 S, CSh.p31_3 S, CSh.p31_4 S, CSh.p62_0 S, CSh.p66_0 S, CSh.p70_0 S, CSh.p74_0 S, CSh.p74_1 S, CSh.p74_6 S, CSh.p74_7 S, CSh.p74_10 S, CSh.p80_1 S, CSh.p80_2 S, CSh.p80_3 S, CSh.p80_4 S, CSh.p80_5 S, CSh.p80_6 S, CSh.p80_7 S, CSh.p80_8 S, CSh.p53_1 S, CSh.p53_2 S, CSh.p59_1 S, CSh.p59_2 S, CSh.p63_1 S, CSh.p63_2 S, CSh.p67_1 S, CSh.p67_2 S, CSh.p71_1 S, CSh.p71_2 S, CSh.p89_1 S, CSh.p89_2 S, hp, LB.o0 H, LB.p2 H, LB.o1 H, LB.l1 H, LB.p3 H, LB.o2 H, LB.l2 H, LB.p4 H, LB.o3 H, LB.l3 H, LB.p6 H, LB.o4 H, LB.l4 H, LB.p7 H, LB.o5 H, LB.l5 H, LB.p8 H, LB.o6 H, LB.l6 H, LB.p9 H, LB.o7 H, LB.l7 H, LB.p10 H, LB.o8 H, LB.l8 H, LB.p12 H, LB.o9 H, LB.l9 H, LB.p14 H, LB.o10 H, LB.p15 H, LB.o16 H, LB.q10_1 H, LB.o11 H, LB.l11 H, LB.q10_2 H, LB.o12 H, LB.l12 H, LB.q10_3 H, LB.o13 H, LB.l13 H, LB.q10_4 H, LB.o14 H, LB.l14 H, LB.q10_5 H, LB.o15 H, LB.l15 H, LB.q16_1 H, LB.o17 H, LB.l17 H, LB.q16_2 H, LB.o18 H, LB.l18 H, LB.q16_3 H, LB.o19 H, LB.l19 H, LB.q16_4 H, LB.o20 H, LB.l20 H, -Int.reduceToNat, -Int32.reduceToNatClampNeg, il0, il1, il2, il3, il4, il5, il6, il7, il8, il9, il10, il11, il12, il13, il14, il15, il16, il17, il18, il19, il20, il21, il22, il23, il24, il25, il26, il27, il28, il29, il30, il31, il32, il35, il36, il38, il40, il42, il43, il44, il45, il46, il47, il48, il49, il50, il51, il52, il57, il59, il60, il63, il64, il75, il80, il95, il96, il97, il98, il99, il100, il120, il122, il123, il127, il128, il135, il167, il175, il225, il249, il250, il255, il256, il360, il370, il384, il600, il700, il740, il900, il940, il1024, il1600, il4800, il64000, il125000, il262143, il1000000000, iI_toInt, iI_add, iI_sub, iI_mul, iI_neg, iI_lt, iI_le, iI_eq, iI_n, iI_in, iI_div, iI_mod, iI_shm, iI_and1, iI_and7, iI_and63, iI_shr3, iI_shr6, rd_I, ob, Option.some.injEq, exists_eq_left', exists_eq_left, true_and, and_true, fqI, fqJ, eq_self, true_or, or_true, bP_0, bP_0i, npP, bP_1i, bP_b, not_true_eq_false, not_false_eq_true, false_implies, true_implies, implies_true, Classical.not_not, and_self, cP, cP', ite_n]
  by_cases c6 : (cutR (rd h 94) r f).1 < 0
  · rw [ite_t c6]; rw [ite_t c6] at k
    rw [show (cutR (rd h 94) r f).1 = -1 by omega]
    exact k
  rw [ite_f c6]; rw [ite_f c6] at k
  by_cases c7 : w = 1
  · rw [ite_t c7]; rw [ite_f (by omega)] at k; exact k
  · rw [ite_f c7]; rw [ite_t (by omega)] at k
    refine c_holdsOf H L hG ?_
    rw [← ci.2.2.2.2 (by omega)]
    exact k
theorem mX_cut (I : Inv h i la fr qa ac) (hr1 : -2147483648 ≤ r) (hr2 : r < 2147483648) (hf : -2147483648 ≤ f) (hf' : f < 2147483648) (hw : -2147483648 ≤ w) (hw' : w < 2147483648) (k : ∀ h', Qt h h' → post h' (iI (cutV (rd h 94) r f w))) : wp_X12_cut h 92 (iI r) (iI f) (iI w) post := by
  unfold wp_X12_cut
  refine ⟨I.m.o0, fun h1 e1 => ?_⟩
  obtain ⟨I1, q1, es, -⟩ := I.thr e1
  have k := k h1 q1
  rw [← es] at k
  have M := I1.m
  have hG := I1.ga
  have bd := hG.bd
  unfold cutV at k
  simp (disch := omega) only [MSh.o0 M, MSh.p1 M, MSh.o1 M, MSh.l1 M, MSh.p6 M, MSh.o2 M, MSh.l2 M, MSh.p7 M, MSh.o3 M, MSh.l3 M, MSh.p8 M, MSh.o4 M, MSh.l4 M, MSh.p9 M, MSh.o5 M, MSh.l5 M, MSh.p10 M, MSh.o6 M, MSh.l6 M, MSh.p24 M, MSh.o7 M, MSh.l7 M, MSh.p25 M, MSh.o8 M, MSh.l8 M, MSh.p26 M, MSh.o9 M, MSh.l9 M, MSh.p32 M, MSh.o10 M, MSh.l10 M, MSh.p33 M, MSh.o11 M, MSh.l11 M, MSh.p35 M, MSh.o12 M, MSh.l12 M, MSh.p36 M, MSh.o13 M, MSh.l13 M, MSh.p37 M, MSh.o14 M, MSh.l14 M, MSh.p38 M, MSh.o15 M, MSh.l15 M, MSh.p39 M, MSh.o16 M, MSh.l16 M, MSh.p42 M, MSh.o17 M, MSh.l17 M, MSh.p43 M, MSh.o18 M, MSh.l18 M, MSh.p44 M, MSh.o19 M, MSh.l19 M, MSh.p45 M, MSh.o20 M, MSh.l20 M, MSh.p46 M, MSh.o21 M, MSh.l21 M, MSh.p47 M, MSh.o22 M, MSh.l22 M, MSh.p50 M, MSh.o23 M, MSh.l23 M, MSh.p51 M, MSh.o24 M, MSh.l24 M, MSh.p52 M, MSh.o25 M, MSh.l25 M, -Int.reduceToNat, -Int32.reduceToNatClampNeg, il0, il1, il2, il3, il4, il5, il6, il7, il8, il9, il10, il11, il12, il13, il14, il15, il16, il17, il18, il19, il20, il21, il22, il23, il24, il25, il26, il27, il28, il29, il30, il31, il32, il35, il36, il38, il40, il42, il43, il44, il45, il46, il47, il48, il49, il50, il51, il52, il57, il59, il60, il63, il64, il75, il80, il95, il96, il97, il98, il99, il100, il120, il122, il123, il127, il128, il135, il167, il175, il225, il249, il250, il255, il256, il360, il370, il384, il600, il700, il740, il900, il940, il1024, il1600, il4800, il64000, il125000, il262143, il1000000000, iI_toInt, iI_add, iI_sub, iI_mul, iI_neg, iI_lt, iI_le, iI_eq, iI_n, iI_in, iI_div, iI_mod, iI_shm, iI_and1, iI_and7, iI_and63, iI_shr3, iI_shr6, rd_I, ob, Option.some.injEq, exists_eq_left', exists_eq_left, true_and, and_true, fqI, fqJ, eq_self, true_or, or_true, bP_0, bP_0i, npP, bP_1i, bP_b, not_true_eq_false, not_false_eq_true, false_implies, true_implies, implies_true, Classical.not_not, and_self, cP, cP', ite_n, m_isRaft M, m_isIn]
  by_cases c1 : 0 ≤ r ∧ r < rd h1 94 2
  case neg => rw [ite_f c1]; rw [ite_f (fun q => c1 q.1)] at k; exact k
  rw [ite_t c1]
  by_cases c2 : 0 ≤ f ∧ f ≤ 99
  case neg => rw [ite_f c2]; rw [ite_f (fun q => c2 q.2.1)] at k; exact k
  rw [ite_t c2]
  by_cases c3 : 0 ≤ w ∧ w ≤ 1
  case neg => rw [ite_f c3]; rw [ite_f (fun q => c3 q.2.2)] at k; exact k
  rw [ite_t c3]
  rw [ite_t ⟨c1, c2, c3⟩] at k
  generalize hs : rd h1 94 = s at hG bd k c1
  have pb := p2_bd hG
  refine lf_for (W := fun n (v : Int × Int) a => wl_X12_cut_45 post n h1 92 (iI r) (iI f) (iI w) (iI v.1) (iI v.2) (iI a)) (lo := 0) (hi := (2 : Int) ^ (s 4).toNat) (fun a v => v.1 = (foldI (cutF s r f) a.toNat 0 (-1, 0)).1 ∧ (0 ≤ v.1 → v.2 = (foldI (cutF s r f) a.toNat 0 (-1, 0)).2) ∧ (v.1 < 0 → v.2 = 1000000000)) (by omega) ?_ ?_ (-1, 1000000000) ⟨rfl, fun q => absurd q (by decide), fun _ => rfl⟩
  · intro m v a a1 a2 hv kk
    obtain ⟨v1, v2, v3⟩ := hv
    have ci := cut_inv (r := r) (f := f) hG a.toNat (by omega)
    rw [← v1] at ci
    have hb := hld_bd hG a
    have vb : 0 ≤ v.2 ∧ v.2 ≤ 1000000000 := by
      by_cases c : 0 ≤ v.1
      · rw [v2 c]; omega
      · rw [v3 (by omega)]; omega
    have e1 : (a + 1).toNat = a.toNat + 1 := by omega
    have e2 : (0 : Int) + (a.toNat : Int) = a := by omega
    show wb_X12_cut_45 (wl_X12_cut_45 post m) h1 92 (iI r) (iI f) (iI w) (iI v.1) (iI v.2) (iI a) post
    unfold wb_X12_cut_45
    simp (disch := omega) only [MSh.o0 M, MSh.p1 M, MSh.o1 M, MSh.l1 M, MSh.p6 M, MSh.o2 M, MSh.l2 M, MSh.p7 M, MSh.o3 M, MSh.l3 M, MSh.p8 M, MSh.o4 M, MSh.l4 M, MSh.p9 M, MSh.o5 M, MSh.l5 M, MSh.p10 M, MSh.o6 M, MSh.l6 M, MSh.p24 M, MSh.o7 M, MSh.l7 M, MSh.p25 M, MSh.o8 M, MSh.l8 M, MSh.p26 M, MSh.o9 M, MSh.l9 M, MSh.p32 M, MSh.o10 M, MSh.l10 M, MSh.p33 M, MSh.o11 M, MSh.l11 M, MSh.p35 M, MSh.o12 M, MSh.l12 M, MSh.p36 M, MSh.o13 M, MSh.l13 M, MSh.p37 M, MSh.o14 M, MSh.l14 M, MSh.p38 M, MSh.o15 M, MSh.l15 M, MSh.p39 M, MSh.o16 M, MSh.l16 M, MSh.p42 M, MSh.o17 M, MSh.l17 M, MSh.p43 M, MSh.o18 M, MSh.l18 M, MSh.p44 M, MSh.o19 M, MSh.l19 M, MSh.p45 M, MSh.o20 M, MSh.l20 M, MSh.p46 M, MSh.o21 M, MSh.l21 M, MSh.p47 M, MSh.o22 M, MSh.l22 M, MSh.p50 M, MSh.o23 M, MSh.l23 M, MSh.p51 M, MSh.o24 M, MSh.l24 M, MSh.p52 M, MSh.o25 M, MSh.l25 M, hs, -Int.reduceToNat, -Int32.reduceToNatClampNeg, il0, il1, il2, il3, il4, il5, il6, il7, il8, il9, il10, il11, il12, il13, il14, il15, il16, il17, il18, il19, il20, il21, il22, il23, il24, il25, il26, il27, il28, il29, il30, il31, il32, il35, il36, il38, il40, il42, il43, il44, il45, il46, il47, il48, il49, il50, il51, il52, il57, il59, il60, il63, il64, il75, il80, il95, il96, il97, il98, il99, il100, il120, il122, il123, il127, il128, il135, il167, il175, il225, il249, il250, il255, il256, il360, il370, il384, il600, il700, il740, il900, il940, il1024, il1600, il4800, il64000, il125000, il262143, il1000000000, iI_toInt, iI_add, iI_sub, iI_mul, iI_neg, iI_lt, iI_le, iI_eq, iI_n, iI_in, iI_div, iI_mod, iI_shm, iI_and1, iI_and7, iI_and63, iI_shr3, iI_shr6, rd_I, iI_shl1, ob, Option.some.injEq, exists_eq_left', exists_eq_left, true_and, and_true, fqI, fqJ, eq_self, true_or, or_true, bP_0, bP_0i, npP, bP_1i, bP_b, not_true_eq_false, not_false_eq_true, false_implies, true_implies, implies_true, Classical.not_not, and_self, cP, cP', ite_n, ite_f]
    have key := lp_fold (W := fun n' (b : Int) j => wl_X12_cut_64 (wl_X12_cut_45 post m) post n' h1 92 (iI r) (iI f) (iI w) (iI v.1) (iI v.2) (iI a) (iI b) (iI j)) (E := fun b => wl_X12_cut_64 (wl_X12_cut_45 post m) post 1 h1 92 (iI r) (iI f) (iI w) (iI v.1) (iI v.2) (iI a) (iI b) (iI (s 4))) (f := sumF (sb (iI a)) (fun k => s (135 + 4 * k + 3))) (lo := 0) (hi := s 4) (fun _ _ => True) (by omega) (fun b i q => q) (fun n' b j j1 j2 _ => ?_) (fun _ _ _ _ _ => trivial) (fun n' b _ => ?_) 0 trivial
    · rw [Int.sub_zero] at key
      refine key.mpr ?_
      show wb_X12_cut_64 (wl_X12_cut_45 post m) (wl_X12_cut_64 (wl_X12_cut_45 post m) post 0) h1 92 (iI r) (iI f) (iI w) (iI v.1) (iI v.2) (iI a) (iI (hldV s a)) (iI (s 4)) post
      unfold wb_X12_cut_64 wb_X12_cut_142 wb_X12_cut_164
      simp (disch := omega) only [MSh.o0 M, MSh.p1 M, MSh.o1 M, MSh.l1 M, MSh.p6 M, MSh.o2 M, MSh.l2 M, MSh.p7 M, MSh.o3 M, MSh.l3 M, MSh.p8 M, MSh.o4 M, MSh.l4 M, MSh.p9 M, MSh.o5 M, MSh.l5 M, MSh.p10 M, MSh.o6 M, MSh.l6 M, MSh.p24 M, MSh.o7 M, MSh.l7 M, MSh.p25 M, MSh.o8 M, MSh.l8 M, MSh.p26 M, MSh.o9 M, MSh.l9 M, MSh.p32 M, MSh.o10 M, MSh.l10 M, MSh.p33 M, MSh.o11 M, MSh.l11 M, MSh.p35 M, MSh.o12 M, MSh.l12 M, MSh.p36 M, MSh.o13 M, MSh.l13 M, MSh.p37 M, MSh.o14 M, MSh.l14 M, MSh.p38 M, MSh.o15 M, MSh.l15 M, MSh.p39 M, MSh.o16 M, MSh.l16 M, MSh.p42 M, MSh.o17 M, MSh.l17 M, MSh.p43 M, MSh.o18 M, MSh.l18 M, MSh.p44 M, MSh.o19 M, MSh.l19 M, MSh.p45 M, MSh.o20 M, MSh.l20 M, MSh.p46 M, MSh.o21 M, MSh.l21 M, MSh.p47 M, MSh.o22 M, MSh.l22 M, MSh.p50 M, MSh.o23 M, MSh.l23 M, MSh.p51 M, MSh.o24 M, MSh.l24 M, MSh.p52 M, MSh.o25 M, MSh.l25 M, hs, -Int.reduceToNat, -Int32.reduceToNatClampNeg, il0, il1, il2, il3, il4, il5, il6, il7, il8, il9, il10, il11, il12, il13, il14, il15, il16, il17, il18, il19, il20, il21, il22, il23, il24, il25, il26, il27, il28, il29, il30, il31, il32, il35, il36, il38, il40, il42, il43, il44, il45, il46, il47, il48, il49, il50, il51, il52, il57, il59, il60, il63, il64, il75, il80, il95, il96, il97, il98, il99, il100, il120, il122, il123, il127, il128, il135, il167, il175, il225, il249, il250, il255, il256, il360, il370, il384, il600, il700, il740, il900, il940, il1024, il1600, il4800, il64000, il125000, il262143, il1000000000, iI_toInt, iI_add, iI_sub, iI_mul, iI_neg, iI_lt, iI_le, iI_eq, iI_n, iI_in, iI_div, iI_mod, iI_shm, iI_and1, iI_and7, iI_and63, iI_shr3, iI_shr6, rd_I, ob, Option.some.injEq, exists_eq_left', exists_eq_left, true_and, and_true, fqI, fqJ, eq_self, true_or, or_true, bP_0, bP_0i, npP, bP_1i, bP_b, not_true_eq_false, not_false_eq_true, false_implies, true_implies, implies_true, Classical.not_not, and_self, cP, cP', ite_n, ite_t]
      have fin0 : foldI (cutF s r f) (a + 1).toNat 0 (-1, 0) = foldI (cutF s r f) a.toNat 0 (-1, 0) → wl_X12_cut_45 post m h1 92 (iI r) (iI f) (iI w) (iI v.1) (iI v.2) (iI (a + 1)) := fun q => kk v (by rw [q]; exact ⟨v1, v2, v3⟩)
      have fin1 : foldI (cutF s r f) (a + 1).toNat 0 (-1, 0) = (a, hldV s a) → wl_X12_cut_45 post m h1 92 (iI r) (iI f) (iI w) (iI a) (iI (hldV s a)) (iI (a + 1)) := fun q => kk (a, hldV s a) (by rw [q]; exact ⟨rfl, fun _ => rfl, fun p => absurd a1 (by show ¬ (0 : Int) ≤ a; have : a < 0 := p; omega)⟩)
      rw [e1, foldI_snoc, e2] at fin0 fin1
      have c0 : ((foldI (cutF s r f) a.toNat 0 (-1, 0)).1 < 0 ∨ hldV s a < (foldI (cutF s r f) a.toNat 0 (-1, 0)).2 ∨ (hldV s a = (foldI (cutF s r f) a.toNat 0 (-1, 0)).2 ∧ pcI a < pcI (foldI (cutF s r f) a.toNat 0 (-1, 0)).1)) ↔ (hldV s a < v.2 ∨ (hldV s a = v.2 ∧ pcI a < pcI v.1)) := by
        rw [← v1]
        by_cases c : 0 ≤ v.1
        · rw [v2 c]
          constructor
          · rintro (q | q)
            · omega
            · exact q
          · exact Or.inr
        · rw [v3 (by omega)]
          exact ⟨fun _ => Or.inl (by omega), fun _ => Or.inl (by omega)⟩
      have yes : (hldV s a < v.2 ∨ (hldV s a = v.2 ∧ pcI a < pcI v.1)) → wp_X12_isDriven h1 92 (iI r) (iI f) (iI a) (fun hv1 iv2 => iteP (iv2 = iI 0) (wl_X12_cut_45 post m hv1 92 (iI r) (iI f) (iI w) (iI a) (iI (hldV s a)) (iI (a + 1))) (wl_X12_cut_45 post m hv1 92 (iI r) (iI f) (iI w) (iI v.1) (iI v.2) (iI (a + 1)))) := by
        intro q
        refine m_isDriven M (by rw [hs]; exact hG) c1.1 (by rw [hs]; exact c1.2) c2.1 c2.2 ?_
        rw [hs, bP_0i]
        by_cases cd : drvT s r f (iI a)
        · rw [ite_f (fun q => q cd)]
          exact fin0 (by unfold cutF; rw [ite_f (fun q => q.2 cd)])
        · rw [ite_t cd]
          exact fin1 (by unfold cutF; rw [ite_t ⟨c0.mpr q, cd⟩])
      have no : ¬ (hldV s a < v.2 ∨ (hldV s a = v.2 ∧ pcI a < pcI v.1)) → wl_X12_cut_45 post m h1 92 (iI r) (iI f) (iI w) (iI v.1) (iI v.2) (iI (a + 1)) := fun q => fin0 (by unfold cutF; rw [ite_f (fun p => q (c0.mp p.1))])
      by_cases d1 : v.2 < hldV s a
      · rw [ite_t d1]
        exact no (by omega)
      rw [ite_f d1]
      by_cases d2 : hldV s a = v.2
      case neg =>
        rw [ite_f d2]
        exact yes (by omega)
      rw [ite_t d2]
      have vn : 0 ≤ v.1 := by
        apply Classical.byContradiction
        intro q
        have := v3 (by omega)
        omega
      refine m_count1 a1 (by omega) (m_count1 vn (by omega) ?_)
      have p1 := pc_bd a.toNat
      have p2 := pc_bd v.1.toNat
      have w1 : 0 ≤ pcI a ∧ pcI a ≤ 8 := by unfold pcI; omega
      have w2 : 0 ≤ pcI v.1 ∧ pcI v.1 ≤ 8 := by unfold pcI; omega
      simp (disch := omega) only [-Int.reduceToNat, -Int32.reduceToNatClampNeg, il0, il1, il2, il3, il4, il5, il6, il7, il8, il9, il10, il11, il12, il13, il14, il15, il16, il17, il18, il19, il20, il21, il22, il23, il24, il25, il26, il27, il28, il29, il30, il31, il32, il35, il36, il38, il40, il42, il43, il44, il45, il46, il47, il48, il49, il50, il51, il52, il57, il59, il60, il63, il64, il75, il80, il95, il96, il97, il98, il99, il100, il120, il122, il123, il127, il128, il135, il167, il175, il225, il249, il250, il255, il256, il360, il370, il384, il600, il700, il740, il900, il940, il1024, il1600, il4800, il64000, il125000, il262143, il1000000000, iI_toInt, iI_add, iI_sub, iI_mul, iI_neg, iI_lt, iI_le, iI_eq, iI_n, iI_in, iI_div, iI_mod, iI_shm, iI_and1, iI_and7, iI_and63, iI_shr3, iI_shr6, rd_I, ob, Option.some.injEq, exists_eq_left', exists_eq_left, true_and, and_true, fqI, fqJ, eq_self, true_or, or_true, bP_0, bP_0i, npP, bP_1i, bP_b, not_true_eq_false, not_false_eq_true, false_implies, true_implies, implies_true, Classical.not_not, and_self, cP, cP', ite_n]
      by_cases c4 : pcI v.1 ≤ pcI a
      · rw [ite_t c4]
        exact no (by omega)
      · rw [ite_f c4]
        exact ⟨M.o0, yes (Or.inr ⟨d2, by omega⟩)⟩
    · show wb_X12_cut_64 (wl_X12_cut_45 post m) (wl_X12_cut_64 (wl_X12_cut_45 post m) post n') h1 92 (iI r) (iI f) (iI w) (iI v.1) (iI v.2) (iI a) (iI b) (iI j) post ↔ _
      unfold wb_X12_cut_64 wb_X12_cut_106
      simp (disch := omega) only [MSh.o0 M, MSh.p1 M, MSh.o1 M, MSh.l1 M, MSh.p6 M, MSh.o2 M, MSh.l2 M, MSh.p7 M, MSh.o3 M, MSh.l3 M, MSh.p8 M, MSh.o4 M, MSh.l4 M, MSh.p9 M, MSh.o5 M, MSh.l5 M, MSh.p10 M, MSh.o6 M, MSh.l6 M, MSh.p24 M, MSh.o7 M, MSh.l7 M, MSh.p25 M, MSh.o8 M, MSh.l8 M, MSh.p26 M, MSh.o9 M, MSh.l9 M, MSh.p32 M, MSh.o10 M, MSh.l10 M, MSh.p33 M, MSh.o11 M, MSh.l11 M, MSh.p35 M, MSh.o12 M, MSh.l12 M, MSh.p36 M, MSh.o13 M, MSh.l13 M, MSh.p37 M, MSh.o14 M, MSh.l14 M, MSh.p38 M, MSh.o15 M, MSh.l15 M, MSh.p39 M, MSh.o16 M, MSh.l16 M, MSh.p42 M, MSh.o17 M, MSh.l17 M, MSh.p43 M, MSh.o18 M, MSh.l18 M, MSh.p44 M, MSh.o19 M, MSh.l19 M, MSh.p45 M, MSh.o20 M, MSh.l20 M, MSh.p46 M, MSh.o21 M, MSh.l21 M, MSh.p47 M, MSh.o22 M, MSh.l22 M, MSh.p50 M, MSh.o23 M, MSh.l23 M, MSh.p51 M, MSh.o24 M, MSh.l24 M, MSh.p52 M, MSh.o25 M, MSh.l25 M, hs, -Int.reduceToNat, -Int32.reduceToNatClampNeg, il0, il1, il2, il3, il4, il5, il6, il7, il8, il9, il10, il11, il12, il13, il14, il15, il16, il17, il18, il19, il20, il21, il22, il23, il24, il25, il26, il27, il28, il29, il30, il31, il32, il35, il36, il38, il40, il42, il43, il44, il45, il46, il47, il48, il49, il50, il51, il52, il57, il59, il60, il63, il64, il75, il80, il95, il96, il97, il98, il99, il100, il120, il122, il123, il127, il128, il135, il167, il175, il225, il249, il250, il255, il256, il360, il370, il384, il600, il700, il740, il900, il940, il1024, il1600, il4800, il64000, il125000, il262143, il1000000000, iI_toInt, iI_add, iI_sub, iI_mul, iI_neg, iI_lt, iI_le, iI_eq, iI_n, iI_in, iI_div, iI_mod, iI_shm, iI_and1, iI_and7, iI_and63, iI_shr3, iI_shr6, rd_I, ob, Option.some.injEq, exists_eq_left', exists_eq_left, true_and, and_true, fqI, fqJ, eq_self, true_or, or_true, bP_0, bP_0i, npP, bP_1i, bP_b, not_true_eq_false, not_false_eq_true, false_implies, true_implies, implies_true, Classical.not_not, and_self, cP, cP', ite_n, ite_f, m_has, Int.add_zero]
      unfold sumF
      by_cases c : sb (iI a) j
      · rw [ite_t c, ite_t c]
      · rw [ite_f c, ite_f c]
    · show wb_X12_cut_64 (wl_X12_cut_45 post m) (wl_X12_cut_64 (wl_X12_cut_45 post m) post n') h1 92 (iI r) (iI f) (iI w) (iI v.1) (iI v.2) (iI a) (iI b) (iI (s 4)) post ↔ wb_X12_cut_64 (wl_X12_cut_45 post m) (wl_X12_cut_64 (wl_X12_cut_45 post m) post 0) h1 92 (iI r) (iI f) (iI w) (iI v.1) (iI v.2) (iI a) (iI b) (iI (s 4)) post
      unfold wb_X12_cut_64
      simp (disch := omega) only [MSh.o0 M, MSh.p1 M, MSh.o1 M, MSh.l1 M, MSh.p6 M, MSh.o2 M, MSh.l2 M, MSh.p7 M, MSh.o3 M, MSh.l3 M, MSh.p8 M, MSh.o4 M, MSh.l4 M, MSh.p9 M, MSh.o5 M, MSh.l5 M, MSh.p10 M, MSh.o6 M, MSh.l6 M, MSh.p24 M, MSh.o7 M, MSh.l7 M, MSh.p25 M, MSh.o8 M, MSh.l8 M, MSh.p26 M, MSh.o9 M, MSh.l9 M, MSh.p32 M, MSh.o10 M, MSh.l10 M, MSh.p33 M, MSh.o11 M, MSh.l11 M, MSh.p35 M, MSh.o12 M, MSh.l12 M, MSh.p36 M, MSh.o13 M, MSh.l13 M, MSh.p37 M, MSh.o14 M, MSh.l14 M, MSh.p38 M, MSh.o15 M, MSh.l15 M, MSh.p39 M, MSh.o16 M, MSh.l16 M, MSh.p42 M, MSh.o17 M, MSh.l17 M, MSh.p43 M, MSh.o18 M, MSh.l18 M, MSh.p44 M, MSh.o19 M, MSh.l19 M, MSh.p45 M, MSh.o20 M, MSh.l20 M, MSh.p46 M, MSh.o21 M, MSh.l21 M, MSh.p47 M, MSh.o22 M, MSh.l22 M, MSh.p50 M, MSh.o23 M, MSh.l23 M, MSh.p51 M, MSh.o24 M, MSh.l24 M, MSh.p52 M, MSh.o25 M, MSh.l25 M, hs, -Int.reduceToNat, -Int32.reduceToNatClampNeg, il0, il1, il2, il3, il4, il5, il6, il7, il8, il9, il10, il11, il12, il13, il14, il15, il16, il17, il18, il19, il20, il21, il22, il23, il24, il25, il26, il27, il28, il29, il30, il31, il32, il35, il36, il38, il40, il42, il43, il44, il45, il46, il47, il48, il49, il50, il51, il52, il57, il59, il60, il63, il64, il75, il80, il95, il96, il97, il98, il99, il100, il120, il122, il123, il127, il128, il135, il167, il175, il225, il249, il250, il255, il256, il360, il370, il384, il600, il700, il740, il900, il940, il1024, il1600, il4800, il64000, il125000, il262143, il1000000000, iI_toInt, iI_add, iI_sub, iI_mul, iI_neg, iI_lt, iI_le, iI_eq, iI_n, iI_in, iI_div, iI_mod, iI_shm, iI_and1, iI_and7, iI_and63, iI_shr3, iI_shr6, rd_I, ob, Option.some.injEq, exists_eq_left', exists_eq_left, true_and, and_true, fqI, fqJ, eq_self, true_or, or_true, bP_0, bP_0i, npP, bP_1i, bP_b, not_true_eq_false, not_false_eq_true, false_implies, true_implies, implies_true, Classical.not_not, and_self, cP, cP', ite_n, ite_t]
  · intro m v hv
    obtain ⟨v1, v2, v3⟩ := hv
    have ci := cut_inv (r := r) (f := f) hG ((2 : Int) ^ (s 4).toNat).toNat (by omega)
    have e : foldI (cutF s r f) ((2 : Int) ^ (s 4).toNat).toNat 0 (-1, 0) = cutR s r f := rfl
    rw [e] at ci v1 v2
    show wb_X12_cut_45 (wl_X12_cut_45 post m) h1 92 (iI r) (iI f) (iI w) (iI v.1) (iI v.2) (iI _) post
    unfold wb_X12_cut_45
    simp (disch := omega) only [MSh.o0 M, MSh.p1 M, MSh.o1 M, MSh.l1 M, MSh.p6 M, MSh.o2 M, MSh.l2 M, MSh.p7 M, MSh.o3 M, MSh.l3 M, MSh.p8 M, MSh.o4 M, MSh.l4 M, MSh.p9 M, MSh.o5 M, MSh.l5 M, MSh.p10 M, MSh.o6 M, MSh.l6 M, MSh.p24 M, MSh.o7 M, MSh.l7 M, MSh.p25 M, MSh.o8 M, MSh.l8 M, MSh.p26 M, MSh.o9 M, MSh.l9 M, MSh.p32 M, MSh.o10 M, MSh.l10 M, MSh.p33 M, MSh.o11 M, MSh.l11 M, MSh.p35 M, MSh.o12 M, MSh.l12 M, MSh.p36 M, MSh.o13 M, MSh.l13 M, MSh.p37 M, MSh.o14 M, MSh.l14 M, MSh.p38 M, MSh.o15 M, MSh.l15 M, MSh.p39 M, MSh.o16 M, MSh.l16 M, MSh.p42 M, MSh.o17 M, MSh.l17 M, MSh.p43 M, MSh.o18 M, MSh.l18 M, MSh.p44 M, MSh.o19 M, MSh.l19 M, MSh.p45 M, MSh.o20 M, MSh.l20 M, MSh.p46 M, MSh.o21 M, MSh.l21 M, MSh.p47 M, MSh.o22 M, MSh.l22 M, MSh.p50 M, MSh.o23 M, MSh.l23 M, MSh.p51 M, MSh.o24 M, MSh.l24 M, MSh.p52 M, MSh.o25 M, MSh.l25 M, hs, -Int.reduceToNat, -Int32.reduceToNatClampNeg, il0, il1, il2, il3, il4, il5, il6, il7, il8, il9, il10, il11, il12, il13, il14, il15, il16, il17, il18, il19, il20, il21, il22, il23, il24, il25, il26, il27, il28, il29, il30, il31, il32, il35, il36, il38, il40, il42, il43, il44, il45, il46, il47, il48, il49, il50, il51, il52, il57, il59, il60, il63, il64, il75, il80, il95, il96, il97, il98, il99, il100, il120, il122, il123, il127, il128, il135, il167, il175, il225, il249, il250, il255, il256, il360, il370, il384, il600, il700, il740, il900, il940, il1024, il1600, il4800, il64000, il125000, il262143, il1000000000, iI_toInt, iI_add, iI_sub, iI_mul, iI_neg, iI_lt, iI_le, iI_eq, iI_n, iI_in, iI_div, iI_mod, iI_shm, iI_and1, iI_and7, iI_and63, iI_shr3, iI_shr6, rd_I, iI_shl1, ob, Option.some.injEq, exists_eq_left', exists_eq_left, true_and, and_true, fqI, fqJ, eq_self, true_or, or_true, bP_0, bP_0i, npP, bP_1i, bP_b, not_true_eq_false, not_false_eq_true, false_implies, true_implies, implies_true, Classical.not_not, and_self, cP, cP', ite_n, ite_t]
    by_cases c : 0 ≤ v.1
    · rw [ite_t c]; rw [ite_f (by omega)] at k
      by_cases c7 : w = 0
      · rw [ite_t c7, v2 c]; rw [ite_t c7] at k; exact k
      · rw [ite_f c7, v1]; rw [ite_f c7] at k; exact k
    · rw [ite_f c]; rw [ite_t (by omega)] at k; exact k
end CUT
