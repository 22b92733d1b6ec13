/-! loops with fuel, and what they come to -/
theorem cP (c A B : Prop) : ((c → A) ∧ (¬ c → B)) = iteP c A B := by
  unfold iteP
  by_cases hc : c
  · rw [if_pos hc]
    exact propext ⟨fun q => q.1 hc, fun q => ⟨fun _ => q, fun n => absurd hc n⟩⟩
  · rw [if_neg hc]
    exact propext ⟨fun q => q.2 hc, fun q => ⟨fun n => absurd n hc, fun _ => q⟩⟩
theorem cP' (c A B : Prop) : ((¬ c → A) ∧ (c → B)) = iteP c B A := by rw [and_comm, cP]
theorem ite_post (post : AH → Int32 → Prop) (h : AH) (c : Prop) (a b : Int32) : iteP c (post h a) (post h b) = post h (iteP c a b) := by
  unfold iteP
  by_cases hc : c
  · rw [if_pos hc, if_pos hc]
  · rw [if_neg hc, if_neg hc]
theorem ite_c {α : Type} {c d : Prop} {a b : α} (h : c ↔ d) : iteP c a b = iteP d a b := by rw [propext h]
theorem bP_def (P : Prop) : iteP P (iI 1) (iI 0) = bP P := rfl
/-- the loop's state is b, its counter goes from lo up to hi -/
def foldI {β : Type} (f : Int → β → β) : Nat → Int → β → β
  | 0, _, b => b
  | d + 1, i, b => foldI f d (i + 1) (f i b)
theorem foldI_snoc {β : Type} (f : Int → β → β) : ∀ (d : Nat) (i : Int) (b : β), foldI f (d + 1) i b = f (i + d) (foldI f d i b) := by
  intro d
  induction d with
  | zero => intro i b; simp [foldI]
  | succ d ih =>
    intro i b
    rw [foldI, ih (i + 1)]
    show f (i + 1 + d) _ = f (i + (d + 1 : Nat)) _
    rw [show i + 1 + (d : Int) = i + (d + 1 : Nat) by omega]
    rfl
theorem lp_fold {β : Type} {W : Nat → β → Int → Prop} {E : β → Prop} {f : Int → β → β} {lo hi : Int} (I : Int → β → Prop) (hle : lo ≤ hi) (z : ∀ b i, ¬ W 0 b i)
    (step : ∀ n b i, lo ≤ i → i < hi → I i b → (W (n + 1) b i ↔ W n (f i b) (i + 1))) (keep : ∀ b i, lo ≤ i → i < hi → I i b → I (i + 1) (f i b)) (fin : ∀ n b, I hi b → (W (n + 1) b hi ↔ E b)) :
    ∀ b, I lo b → ((∃ n, W n b lo) ↔ E (foldI f (hi - lo).toNat lo b)) := by
  have key : ∀ (d : Nat) (i : Int) (b : β), lo ≤ i → i + d = hi → I i b → ((∃ n, W n b i) ↔ E (foldI f d i b)) := by
    intro d
    induction d with
    | zero =>
      intro i b h1 h2 h3
      have e : i = hi := by omega
      subst e
      refine ⟨fun ⟨n, hn⟩ => ?_, fun q => ⟨1, (fin 0 b h3).mpr q⟩⟩
      cases n with
      | zero => exact absurd hn (z b i)
      | succ n => exact (fin n b h3).mp hn
    | succ d ih =>
      intro i b h1 h2 h3
      have hlt : i < hi := by omega
      have := ih (i + 1) (f i b) (by omega) (by omega) (keep b i h1 hlt h3)
      rw [foldI, ← this]
      refine ⟨fun ⟨n, hn⟩ => ?_, fun ⟨n, hn⟩ => ⟨n + 1, (step n b i h1 hlt h3).mpr hn⟩⟩
      cases n with
      | zero => exact absurd hn (z b i)
      | succ n => exact ⟨n, (step n b i h1 hlt h3).mp hn⟩
  intro b hb
  exact key _ _ _ (Int.le_refl _) (by omega) hb
/-- a search: out at the first i with P i -/
theorem lp_find {W : Nat → Int → Prop} {A : Int → Prop} {E : Prop} {P : Int → Prop} {lo hi : Int} (hle : lo ≤ hi) (z : ∀ i, ¬ W 0 i)
    (step : ∀ n i, lo ≤ i → i < hi → (W (n + 1) i ↔ iteP (P i) (A i) (W n (i + 1)))) (fin : ∀ n, (W (n + 1) hi ↔ E)) :
    (∃ n, W n lo) ↔ ((∃ i, lo ≤ i ∧ i < hi ∧ P i ∧ (∀ j, lo ≤ j → j < i → ¬ P j) ∧ A i) ∨ ((∀ j, lo ≤ j → j < hi → ¬ P j) ∧ E)) := by
  have key : ∀ (d : Nat) (i : Int), lo ≤ i → i + d = hi → (∀ j, lo ≤ j → j < i → ¬ P j) → ((∃ n, W n i) ↔ ((∃ i, lo ≤ i ∧ i < hi ∧ P i ∧ (∀ j, lo ≤ j → j < i → ¬ P j) ∧ A i) ∨ ((∀ j, lo ≤ j → j < hi → ¬ P j) ∧ E))) := by
    intro d
    induction d with
    | zero =>
      intro i h1 h2 h3
      have e : i = hi := by omega
      subst e
      refine ⟨fun ⟨n, hn⟩ => ?_, fun q => ⟨1, (fin 0).mpr ?_⟩⟩
      · cases n with
        | zero => exact absurd hn (z i)
        | succ n => exact Or.inr ⟨h3, (fin n).mp hn⟩
      · rcases q with ⟨j, j1, j2, j3, -⟩ | q
        · exact absurd j3 (h3 j j1 j2)
        · exact q.2
    | succ d ih =>
      intro i h1 h2 h3
      have hlt : i < hi := by omega
      by_cases hp : P i
      · refine ⟨fun ⟨n, hn⟩ => ?_, fun q => ⟨1, (step 0 i h1 hlt).mpr ?_⟩⟩
        · cases n with
          | zero => exact absurd hn (z i)
          | succ n =>
            have q := (step n i h1 hlt).mp hn
            rw [ite_t hp] at q
            exact Or.inl ⟨i, h1, hlt, hp, h3, q⟩
        · rw [ite_t hp]
          rcases q with ⟨j, j1, j2, j3, j4, j5⟩ | q
          · have e : j = i := by
              by_cases c1 : j < i
              · exact absurd j3 (h3 j j1 c1)
              · by_cases c2 : i < j
                · exact absurd hp (j4 i h1 c2)
                · omega
            subst e
            exact j5
          · exact absurd hp (q.1 i h1 hlt)
      · have := ih (i + 1) (by omega) (by omega) (fun j j1 j2 => by
          by_cases c1 : j = i
          · subst c1; exact hp
          · exact h3 j j1 (by omega))
        rw [← this]
        refine ⟨fun ⟨n, hn⟩ => ?_, fun ⟨n, hn⟩ => ⟨n + 1, (step n i h1 hlt).mpr (by rw [ite_f hp]; exact hn)⟩⟩
        cases n with
        | zero => exact absurd hn (z i)
        | succ n =>
          have q := (step n i h1 hlt).mp hn
          rw [ite_f hp] at q
          exact ⟨n, q⟩
  exact key _ _ (Int.le_refl _) (show lo + ((hi - lo).toNat : Int) = hi by omega) (fun j j1 j2 => by omega)
/-- .. that answers 1 there, else 0 -/
theorem lp_any {W : Nat → Int → Prop} {P : Int → Prop} {lo hi : Int} {post : AH → Int32 → Prop} {h : AH} (hle : lo ≤ hi) (z : ∀ i, ¬ W 0 i)
    (step : ∀ n i, lo ≤ i → i < hi → (W (n + 1) i ↔ iteP (P i) (post h (iI 1)) (W n (i + 1)))) (fin : ∀ n, (W (n + 1) hi ↔ post h (iI 0))) :
    (∃ n, W n lo) ↔ post h (bP (∃ i, lo ≤ i ∧ i < hi ∧ P i)) := by
  rw [lp_find hle z step fin]
  by_cases hq : ∃ i, lo ≤ i ∧ i < hi ∧ P i
  · rw [bP_t hq]
    refine ⟨fun q => ?_, fun q => ?_⟩
    · rcases q with ⟨i, -, -, -, -, q⟩ | q
      · exact q
      · obtain ⟨i, a, b, c⟩ := hq
        exact absurd c (q.1 i a b)
    · have hd : ∀ d : Nat, (∃ i, lo ≤ i ∧ i < lo + d ∧ i < hi ∧ P i) → ∃ i, lo ≤ i ∧ i < hi ∧ P i ∧ (∀ j, lo ≤ j → j < i → ¬ P j) := by
        intro d
        induction d with
        | zero => rintro ⟨i, a, b, -⟩; omega
        | succ d ih =>
          rintro ⟨i, a, b, c, e⟩
          by_cases hx : ∃ i, lo ≤ i ∧ i < lo + d ∧ i < hi ∧ P i
          · exact ih hx
          · exact ⟨i, a, c, e, fun j j1 j2 j3 => hx ⟨j, j1, by omega, by omega, j3⟩⟩
      obtain ⟨i, a, b, c⟩ := hq
      obtain ⟨i, a, b, c, d⟩ := hd (i - lo + 1).toNat ⟨i, a, by omega, b, c⟩
      exact Or.inl ⟨i, a, b, c, d, q⟩
  · rw [bP_f hq]
    refine ⟨fun q => ?_, fun q => Or.inr ⟨fun j j1 j2 j3 => hq ⟨j, j1, j2, j3⟩, q⟩⟩
    rcases q with ⟨i, a, b, c, -⟩ | q
    · exact absurd ⟨i, a, b, c⟩ hq
    · exact q.2
/-- .. that answers 0 there, else 1 -/
theorem lp_all {W : Nat → Int → Prop} {P : Int → Prop} {lo hi : Int} {post : AH → Int32 → Prop} {h : AH} (hle : lo ≤ hi) (z : ∀ i, ¬ W 0 i)
    (step : ∀ n i, lo ≤ i → i < hi → (W (n + 1) i ↔ iteP (P i) (post h (iI 0)) (W n (i + 1)))) (fin : ∀ n, (W (n + 1) hi ↔ post h (iI 1))) :
    (∃ n, W n lo) ↔ post h (bP (∀ i, lo ≤ i → i < hi → ¬ P i)) := by
  have := lp_any (post := fun h v => post h (iI 1 - v)) hle z step fin
  rw [this]
  show post h (iI 1 - bP _) ↔ _
  by_cases hq : ∃ i, lo ≤ i ∧ i < hi ∧ P i
  · rw [bP_t hq, bP_f (fun q => by obtain ⟨i, a, b, c⟩ := hq; exact q i a b c)]
    rfl
  · rw [bP_f hq, bP_t (fun i a b c => hq ⟨i, a, b, c⟩)]
    rfl
/-- the first i in [lo, hi) with P i, else -1 -/
noncomputable def fstI (P : Int → Prop) : Nat → Int → Int
  | 0, _ => -1
  | d + 1, i => iteP (P i) i (fstI P d (i + 1))
theorem lp_fst {W : Nat → Int → Prop} {P : Int → Prop} {lo hi : Int} {E : Int → Prop} (hle : lo ≤ hi) (z : ∀ i, ¬ W 0 i)
    (step : ∀ n i, lo ≤ i → i < hi → (W (n + 1) i ↔ iteP (P i) (E i) (W n (i + 1)))) (fin : ∀ n, (W (n + 1) hi ↔ E (-1))) :
    (∃ n, W n lo) ↔ E (fstI P (hi - lo).toNat lo) := by
  have key : ∀ (d : Nat) (i : Int), lo ≤ i → i + d = hi → ((∃ n, W n i) ↔ E (fstI P d i)) := by
    intro d
    induction d with
    | zero =>
      intro i h1 h2
      have e : i = hi := by omega
      subst e
      refine ⟨fun ⟨n, hn⟩ => ?_, fun q => ⟨1, (fin 0).mpr q⟩⟩
      cases n with
      | zero => exact absurd hn (z i)
      | succ n => exact (fin n).mp hn
    | succ d ih =>
      intro i h1 h2
      have hlt : i < hi := by omega
      have hi' := ih (i + 1) (by omega) (by omega)
      rw [fstI]
      by_cases hp : P i
      · rw [ite_t hp]
        refine ⟨fun ⟨n, hn⟩ => ?_, fun q => ⟨1, (step 0 i h1 hlt).mpr (by rw [ite_t hp]; exact q)⟩⟩
        cases n with
        | zero => exact absurd hn (z i)
        | succ n =>
          have q := (step n i h1 hlt).mp hn
          rw [ite_t hp] at q
          exact q
      · rw [ite_f hp, ← hi']
        refine ⟨fun ⟨n, hn⟩ => ?_, fun ⟨n, hn⟩ => ⟨n + 1, (step n i h1 hlt).mpr (by rw [ite_f hp]; exact hn)⟩⟩
        cases n with
        | zero => exact absurd hn (z i)
        | succ n =>
          have q := (step n i h1 hlt).mp hn
          rw [ite_f hp] at q
          exact ⟨n, q⟩
  exact key _ _ (Int.le_refl _) (by omega)
theorem foldI_c {β : Type} {f g : Int → β → β} : ∀ (d : Nat) (i : Int) (b : β), (∀ j b, i ≤ j → j < i + d → f j b = g j b) → foldI f d i b = foldI g d i b := by
  intro d
  induction d with
  | zero => intro i b _; rfl
  | succ d ih =>
    intro i b h
    rw [foldI, foldI, h i b (by omega) (by omega)]
    exact ih _ _ fun j b h1 h2 => h j b (by omega) (by omega)
theorem fstI_c {P Q : Int → Prop} : ∀ (d : Nat) (i : Int), (∀ j, i ≤ j → j < i + d → (P j ↔ Q j)) → fstI P d i = fstI Q d i := by
  intro d
  induction d with
  | zero => intro i _; rfl
  | succ d ih =>
    intro i h
    rw [fstI, fstI, ite_c (h i (by omega) (by omega)), ih (i + 1) fun j h1 h2 => h j (by omega) (by omega)]
