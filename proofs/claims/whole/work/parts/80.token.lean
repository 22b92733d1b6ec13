/-! TOKENS: T the bytes, n how many, m how many may be -/
noncomputable def fz (P : Int → Prop) : Nat → Int → Int
  | 0, i => i
  | d + 1, i => iteP (P i) i (fz P d (i + 1))
theorem fz_spec {P : Int → Prop} : ∀ (d : Nat) (i : Int), (i ≤ fz P d i ∧ fz P d i ≤ i + d) ∧ (∀ j, i ≤ j → j < fz P d i → ¬ P j) ∧ (fz P d i < i + d → P (fz P d i)) := by
  intro d
  induction d with
  | zero => intro i; exact ⟨⟨Int.le_refl _, by show i ≤ i + ((0 : Nat) : Int); omega⟩, fun j j1 j2 => by have : j < i := j2; omega, fun q => by have : i < i + ((0 : Nat) : Int) := q; omega⟩
  | succ d ih =>
    intro i
    rw [fz]
    by_cases c : P i
    · rw [ite_t c]
      exact ⟨⟨Int.le_refl _, by omega⟩, fun j j1 j2 => by omega, fun _ => c⟩
    · rw [ite_f c]
      obtain ⟨⟨a1, a2⟩, b, e⟩ := ih (i + 1)
      refine ⟨⟨by omega, by omega⟩, fun j j1 j2 => ?_, fun q => e (by omega)⟩
      by_cases cj : j = i
      · subst cj; exact c
      · exact b j (by omega) j2
theorem fz_at {P : Int → Prop} : ∀ (d : Nat) (i x : Int), i ≤ x → x ≤ i + d → (∀ j, i ≤ j → j < x → ¬ P j) → (x < i + d → P x) → fz P d i = x := by
  intro d
  induction d with
  | zero => intro i x h1 h2 _ _; show i = x; omega
  | succ d ih =>
    intro i x h1 h2 h3 h4
    rw [fz]
    by_cases e : i = x
    · subst e
      rw [ite_t (h4 (by omega))]
    · rw [ite_f (h3 i (Int.le_refl _) (by omega))]
      exact ih (i + 1) x (by omega) (by omega) (fun j j1 j2 => h3 j (by omega) j2) (fun q => h4 (by omega))
def whC (c : Int) : Prop := c = 32 ∨ c = 10
def ltC (c : Int) : Prop := 97 ≤ c ∧ c ≤ 122
def dgC (c : Int) : Prop := 48 ≤ c ∧ c ≤ 57
def alC (c : Int) : Prop := ltC c ∨ dgC c
def mnZ (a b : Int) : Int := if b < a then b else a
noncomputable def skT (T : Int → Int) (n m p : Int) : Int := fz (fun i => ¬ whC (T i)) (mnZ n m - p).toNat p
noncomputable def rnE (T : Int → Int) (n q : Int) : Int := fz (fun i => ¬ alC (T i)) (n - q).toNat q
noncomputable def tkA (T : Int → Int) (n m p : Int) : Int := iteP (mnZ n m ≤ skT T n m p) (mnZ n m) (skT T n m p)
noncomputable def tkE (T : Int → Int) (n m p : Int) : Int := iteP (mnZ n m ≤ skT T n m p) (skT T n m p) (iteP (T (skT T n m p) = 59) (skT T n m p + 1) (rnE T n (skT T n m p)))
def allI (P : Int → Prop) (T : Int → Int) (a b : Int) : Prop := ∀ i, a ≤ i → i < b → P (T i)
noncomputable def rnK (T : Int → Int) (q e : Int) : Int := iteP (e = q) 0 (iteP (allI ltC T q e ∧ e - q ≤ 6) 1 (iteP (allI dgC T q e ∧ e - q ≤ 8) 2 0))
noncomputable def tkK (T : Int → Int) (n m p : Int) : Int := iteP (mnZ n m ≤ skT T n m p) 4 (iteP (T (skT T n m p) = 59) 3 (rnK T (skT T n m p) (rnE T n (skT T n m p))))
def rnW (T : Int → Int) (q e : Int) : List Int := foldI (fun i l => T i :: l) (e - q).toNat q []
def rnV (T : Int → Int) (q e : Int) : Int := foldI (fun i v => v * 10 + T i - 48) (e - q).toNat q 0
noncomputable def tkW (T : Int → Int) (n m p : Int) : List Int := rnW T (skT T n m p) (rnE T n (skT T n m p))
noncomputable def tkV (T : Int → Int) (n m p : Int) : Int := rnV T (skT T n m p) (rnE T n (skT T n m p))
noncomputable def tkS (T : Int → Int) (n m p : Int) : Int := rnE T n (skT T n m p) - skT T n m p
/-- which of the words that are no names -/
noncomputable def kwI (l : List Int) : Int := fstI (fun i => kwL.getD i.toNat [] = l) 18 0
theorem rnW_s {T : Int → Int} {q e : Int} (h : q ≤ e) : rnW T q (e + 1) = T e :: rnW T q e := by
  unfold rnW
  rw [show (e + 1 - q).toNat = (e - q).toNat + 1 by omega, foldI_snoc, show q + ((e - q).toNat : Int) = e by omega]
theorem rnV_s {T : Int → Int} {q e : Int} (h : q ≤ e) : rnV T q (e + 1) = rnV T q e * 10 + T e - 48 := by
  unfold rnV
  rw [show (e + 1 - q).toNat = (e - q).toNat + 1 by omega, foldI_snoc, show q + ((e - q).toNat : Int) = e by omega]
theorem rnW_0 {T : Int → Int} {q : Int} : rnW T q q = [] := by
  unfold rnW
  rw [show (q - q).toNat = 0 by omega]
  rfl
theorem rnV_0 {T : Int → Int} {q : Int} : rnV T q q = 0 := by
  unfold rnV
  rw [show (q - q).toNat = 0 by omega]
  rfl
theorem rnW_len {T : Int → Int} {q : Int} : ∀ d : Nat, (rnW T q (q + d)).length = d := by
  intro d
  induction d with
  | zero => rw [show q + ((0 : Nat) : Int) = q by omega, rnW_0]; rfl
  | succ d ih => rw [show q + ((d + 1 : Nat) : Int) = q + d + 1 by omega, rnW_s (by omega), List.length_cons, ih]
theorem rnW_l {T : Int → Int} {q e : Int} (h : q ≤ e) : ((rnW T q e).length : Int) = e - q := by
  have := rnW_len (T := T) (q := q) (e - q).toNat
  rw [show q + ((e - q).toNat : Int) = e by omega] at this
  rw [this]
  omega
theorem rnW_lt {T : Int → Int} {q : Int} : ∀ d : Nat, allI ltC T q (q + d) → Ltr (rnW T q (q + d)) := by
  intro d
  induction d with
  | zero => intro _; rw [show q + ((0 : Nat) : Int) = q by omega, rnW_0]; exact fun c hc => absurd hc List.not_mem_nil
  | succ d ih =>
    intro h
    rw [show q + ((d + 1 : Nat) : Int) = q + d + 1 by omega, rnW_s (by omega)]
    intro c hc
    rcases List.mem_cons.mp hc with e | e
    · rw [e]; exact h _ (by omega) (by omega)
    · exact ih (fun i i1 i2 => h i i1 (by omega)) c e
/-- the size of a word's number -/
def p32 : Nat → Int
  | 0 => 1
  | n + 1 => 32 * p32 n
def p256 : Nat → Int
  | 0 => 1
  | n + 1 => 256 * p256 n
def p10 : Nat → Int
  | 0 => 1
  | n + 1 => 10 * p10 n
theorem w5_bd : ∀ l : List Int, Ltr l → 0 ≤ w5 l ∧ w5 l < p32 l.length := by
  intro l
  induction l with
  | nil => intro _; exact ⟨Int.le_refl _, by show (0 : Int) < 1; omega⟩
  | cons c l ih =>
    intro h
    have hc := h c List.mem_cons_self
    have := ih fun x hx => h x (List.mem_cons_of_mem _ hx)
    show 0 ≤ 32 * w5 l + (c - 96) ∧ 32 * w5 l + (c - 96) < 32 * p32 l.length
    omega
theorem w8_bd : ∀ l : List Int, Ltr l → 0 ≤ w8 l ∧ w8 l < p256 l.length := by
  intro l
  induction l with
  | nil => intro _; exact ⟨Int.le_refl _, by show (0 : Int) < 1; omega⟩
  | cons c l ih =>
    intro h
    have hc := h c List.mem_cons_self
    have := ih fun x hx => h x (List.mem_cons_of_mem _ hx)
    show 0 ≤ 256 * w8 l + c ∧ 256 * w8 l + c < 256 * p256 l.length
    omega
theorem w5_inj : ∀ l l' : List Int, Ltr l → Ltr l' → w5 l = w5 l' → l = l' := by
  intro l
  induction l with
  | nil =>
    intro l' _ h' e
    cases l' with
    | nil => rfl
    | cons c l' =>
      have hc := h' c List.mem_cons_self
      have b := w5_bd l' fun x hx => h' x (List.mem_cons_of_mem _ hx)
      have e : 0 = 32 * w5 l' + (c - 96) := e
      omega
  | cons c l ih =>
    intro l' h h' e
    have hc := h c List.mem_cons_self
    have b := w5_bd l fun x hx => h x (List.mem_cons_of_mem _ hx)
    cases l' with
    | nil =>
      have e : 32 * w5 l + (c - 96) = 0 := e
      omega
    | cons c' l' =>
      have hc' := h' c' List.mem_cons_self
      have b' := w5_bd l' fun x hx => h' x (List.mem_cons_of_mem _ hx)
      have e : 32 * w5 l + (c - 96) = 32 * w5 l' + (c' - 96) := e
      have e1 : c = c' := by omega
      have e2 : w5 l = w5 l' := by omega
      rw [e1, ih l' (fun x hx => h x (List.mem_cons_of_mem _ hx)) (fun x hx => h' x (List.mem_cons_of_mem _ hx)) e2]
theorem w8_inj : ∀ l l' : List Int, Ltr l → Ltr l' → w8 l = w8 l' → l = l' := by
  intro l
  induction l with
  | nil =>
    intro l' _ h' e
    cases l' with
    | nil => rfl
    | cons c l' =>
      have hc := h' c List.mem_cons_self
      have b := w8_bd l' fun x hx => h' x (List.mem_cons_of_mem _ hx)
      have e : 0 = 256 * w8 l' + c := e
      omega
  | cons c l ih =>
    intro l' h h' e
    have hc := h c List.mem_cons_self
    have b := w8_bd l fun x hx => h x (List.mem_cons_of_mem _ hx)
    cases l' with
    | nil =>
      have e : 256 * w8 l + c = 0 := e
      omega
    | cons c' l' =>
      have hc' := h' c' List.mem_cons_self
      have b' := w8_bd l' fun x hx => h' x (List.mem_cons_of_mem _ hx)
      have e : 256 * w8 l + c = 256 * w8 l' + c' := e
      have e1 : c = c' := by omega
      have e2 : w8 l = w8 l' := by omega
      rw [e1, ih l' (fun x hx => h x (List.mem_cons_of_mem _ hx)) (fun x hx => h' x (List.mem_cons_of_mem _ hx)) e2]
theorem p32_6 {k : Nat} (h : k ≤ 6) : p32 k ≤ 1073741824 := by
  have : ∀ k : Nat, k < 7 → p32 k ≤ 1073741824 := by decide
  exact this k (by omega)
theorem p256_6 {k : Nat} (h : k ≤ 6) : p256 k ≤ 281474976710656 := by
  have : ∀ k : Nat, k < 7 → p256 k ≤ 281474976710656 := by decide
  exact this k (by omega)
theorem rnV_bd {T : Int → Int} {q : Int} : ∀ d : Nat, allI dgC T q (q + d) → 0 ≤ rnV T q (q + d) ∧ rnV T q (q + d) < p10 d := by
  intro d
  induction d with
  | zero => intro _; rw [show q + ((0 : Nat) : Int) = q by omega, rnV_0]; exact ⟨Int.le_refl _, by show (0 : Int) < 1; omega⟩
  | succ d ih =>
    intro h
    rw [show q + ((d + 1 : Nat) : Int) = q + d + 1 by omega, rnV_s (by omega)]
    have b := ih fun i i1 i2 => h i i1 (by omega)
    have c : dgC (T (q + d)) := h _ (by omega) (by omega)
    unfold dgC at c
    show _ ∧ _ < 10 * p10 d
    omega
theorem p10_8 {k : Nat} (h : k ≤ 8) : p10 k ≤ 100000000 := by
  have : ∀ k : Nat, k < 9 → p10 k ≤ 100000000 := by decide
  exact this k (by omega)
theorem shl5 {a b : Int} (h1 : 0 ≤ a) (h2 : a < 33554432) (h3 : 0 ≤ b) (h4 : b < 32) : iI a <<< iI 5 ||| iI b = iI (32 * a + b) := by
  apply Int32.toBitVec_inj.mp
  rw [Int32.toBitVec_or]
  have e5 : (iI a <<< iI 5).toBitVec = (iI a).toBitVec <<< 5 := by
    show (iI a).toBitVec <<< ((iI 5).toBitVec.smod 32) = _
    rw [BitVec.shiftLeft_eq']
    congr 1
  rw [e5, iI_bv h1 (by omega), iI_bv h3 (by omega), iI_bv (by omega) (by omega)]
  apply BitVec.eq_of_toNat_eq
  have e : a.toNat <<< 5 = a.toNat * 32 := by rw [Nat.shiftLeft_eq]
  have ha : a.toNat % 2 ^ 32 = a.toNat := Nat.mod_eq_of_lt (by omega)
  have hb : b.toNat % 2 ^ 32 = b.toNat := Nat.mod_eq_of_lt (by omega)
  have hc : (32 * a + b).toNat % 2 ^ 32 = (32 * a + b).toNat := Nat.mod_eq_of_lt (by omega)
  have hs : (a.toNat <<< 5) % 2 ^ 32 = a.toNat <<< 5 := Nat.mod_eq_of_lt (by rw [e]; omega)
  rw [BitVec.toNat_or, BitVec.toNat_shiftLeft, BitVec.toNat_ofNat, BitVec.toNat_ofNat, BitVec.toNat_ofNat, ha, hs, hb, hc, ← Nat.shiftLeft_add_eq_or_of_lt (show b.toNat < 2 ^ 5 by omega), e]
  omega
