/-! the model goes through all TOWNS -/
def ddM (q : Int → Int) (d o : Int) : Int := if o < d then q o - 1 else if o = d then q o else 0
def posM (q : Int → Int) (d : Int) : Int := if d < 0 then 125000 else 2500 * ddM q d 0 + 50 * ddM q d 1 + ddM q d 2
def muM (q : Int → Int) (N d : Int) : Int := (if 0 ≤ d then (N + 1 - q 0) * 10000 else 0) + (if 1 ≤ d then (N + 1 - q 1) * 100 else 0) + (if 2 ≤ d then (N + 1 - q 2) else 0)
def AMk (h0 h : AH) (s : Int → Int) (most c : Int) : Prop := (most = -1 ∧ (∀ T, VAl s (tS s) (zC s) T → ¬ kM s T < c) ∧ rd h 92 48 = rd h0 92 48 ∧ rd h 92 49 = rd h0 92 49 ∧ rd h 114 = rd h0 114) ∨ ∃ T, VAl s (tS s) (zC s) T ∧ kM s T < c ∧ most = mvT s T (zC s) ∧ rd h 92 48 = s 2 ∧ rd h 92 49 = (lfT s T (zC s)).toInt ∧ (∀ j, 0 ≤ j → j < 24 → rd h 114 j = T j) ∧ ∀ T', VAl s (tS s) (zC s) T' → kM s T' < c → mvT s T' (zC s) ≤ mvT s T (zC s) ∧ (kM s T' < kM s T → mvT s T' (zC s) < mvT s T (zC s))
def MA (h0 h : AH) (s : Int → Int) (d most : Int) : Prop := (MSh h) ∧ (Fr [92, 99, 113, 114] [] [] h0 h) ∧ (rd h 94 = s) ∧ (rd h 100 = zC s) ∧ (∀ j, j < 0 ∨ 3 * s 2 ≤ j → rd h 99 j = tS s j) ∧ (∀ j, j ≠ 48 → j ≠ 49 → rd h 92 j = rd h0 92 j) ∧ (-1 ≤ d ∧ d < s 2) ∧ (∀ o, 0 ≤ o → o < d → (1 ≤ rd h 113 o ∧ rd h 113 o ≤ 2 * (s 0 * s 1)) ∧ rd h 99 (3 * o) = (rd h 113 o - 1) % (s 0 * s 1) % s 0 ∧ rd h 99 (3 * o + 1) = (rd h 113 o - 1) % (s 0 * s 1) / s 0 ∧ rd h 99 (3 * o + 2) = (rd h 113 o - 1) / (s 0 * s 1)) ∧ (0 ≤ d → 0 ≤ rd h 113 d ∧ rd h 113 d ≤ 2 * (s 0 * s 1)) ∧ (∀ o, 0 ≤ o → o < d → Spot (rd h 99) (zC s) o ∧ fsT s (rd h 99) (zC s) o) ∧ (AMk h0 h s most (posM (rd h 113) d))
theorem MA.MM {h0 h : AH} {s : Int → Int} {d most : Int} (R : MA h0 h s d most) : MSh h := R.1
theorem MA.FF {h0 h : AH} {s : Int → Int} {d most : Int} (R : MA h0 h s d most) : Fr [92, 99, 113, 114] [] [] h0 h := R.2.1
theorem MA.s94 {h0 h : AH} {s : Int → Int} {d most : Int} (R : MA h0 h s d most) : rd h 94 = s := R.2.2.1
theorem MA.z10 {h0 h : AH} {s : Int → Int} {d most : Int} (R : MA h0 h s d most) : rd h 100 = zC s := R.2.2.2.1
theorem MA.t99 {h0 h : AH} {s : Int → Int} {d most : Int} (R : MA h0 h s d most) : ∀ j, j < 0 ∨ 3 * s 2 ≤ j → rd h 99 j = tS s j := R.2.2.2.2.1
theorem MA.r92 {h0 h : AH} {s : Int → Int} {d most : Int} (R : MA h0 h s d most) : ∀ j, j ≠ 48 → j ≠ 49 → rd h 92 j = rd h0 92 j := R.2.2.2.2.2.1
theorem MA.db {h0 h : AH} {s : Int → Int} {d most : Int} (R : MA h0 h s d most) : -1 ≤ d ∧ d < s 2 := R.2.2.2.2.2.2.1
theorem MA.tr {h0 h : AH} {s : Int → Int} {d most : Int} (R : MA h0 h s d most) : ∀ o, 0 ≤ o → o < d → (1 ≤ rd h 113 o ∧ rd h 113 o ≤ 2 * (s 0 * s 1)) ∧ rd h 99 (3 * o) = (rd h 113 o - 1) % (s 0 * s 1) % s 0 ∧ rd h 99 (3 * o + 1) = (rd h 113 o - 1) % (s 0 * s 1) / s 0 ∧ rd h 99 (3 * o + 2) = (rd h 113 o - 1) / (s 0 * s 1) := R.2.2.2.2.2.2.2.1
theorem MA.td {h0 h : AH} {s : Int → Int} {d most : Int} (R : MA h0 h s d most) : 0 ≤ d → 0 ≤ rd h 113 d ∧ rd h 113 d ≤ 2 * (s 0 * s 1) := R.2.2.2.2.2.2.2.2.1
theorem MA.sp {h0 h : AH} {s : Int → Int} {d most : Int} (R : MA h0 h s d most) : ∀ o, 0 ≤ o → o < d → Spot (rd h 99) (zC s) o ∧ fsT s (rd h 99) (zC s) o := R.2.2.2.2.2.2.2.2.2.1
theorem MA.bb {h0 h : AH} {s : Int → Int} {d most : Int} (R : MA h0 h s d most) : AMk h0 h s most (posM (rd h 113) d) := R.2.2.2.2.2.2.2.2.2.2
section MAP
variable {h h1 h2 h' h0 g0 g : AH} {postV : AH → Prop} {post : AH → Int32 → Prop} {a b c c' d f i j k v w x y pl r hr how gl goal most st u p o N C : Int} {s t t' t0 z T T' q : Int → Int} {S : BS}
theorem pos_n (h : d < 0) : posM q d = 125000 := by unfold posM; rw [if_pos h]
theorem pos_0 : posM q 0 = 2500 * q 0 := by unfold posM ddM; simp
theorem pos_1 : posM q 1 = 2500 * (q 0 - 1) + 50 * q 1 := by unfold posM ddM; simp
theorem pos_2 : posM q 2 = 2500 * (q 0 - 1) + 50 * (q 1 - 1) + q 2 := by unfold posM ddM; simp
theorem mu_n (h : d < 0) : muM q N d = 0 := by unfold muM; rw [if_neg (by omega), if_neg (by omega), if_neg (by omega)]; rfl
theorem mu_0 : muM q N 0 = (N + 1 - q 0) * 10000 := by unfold muM; simp
theorem mu_1 : muM q N 1 = (N + 1 - q 0) * 10000 + (N + 1 - q 1) * 100 := by unfold muM; simp
theorem mu_2 : muM q N 2 = (N + 1 - q 0) * 10000 + (N + 1 - q 1) * 100 + (N + 1 - q 2) := by unfold muM; simp
theorem AMk_low (A : AMk h0 h s most c) (gs : GS s) (le : c ≤ c') (lo : ∀ T, VAl s (tS s) (zC s) T → c ≤ kM s T → kM s T < c' → mvT s T (zC s) ≤ most) (e92 : ∀ j, j = 48 ∨ j = 49 → rd h1 92 j = rd h 92 j) (e114 : rd h1 114 = rd h 114) : AMk h0 h1 s most c' := by
  rcases A with ⟨a1, a2, a3, a4, a5⟩ | ⟨T, a1, a2, a3, a4, a5, a6, a7⟩
  · refine Or.inl ⟨a1, fun T V u => ?_, by rw [e92 48 (by omega)]; exact a3, by rw [e92 49 (by omega)]; exact a4, by rw [e114]; exact a5⟩
    have := a2 T V
    have := lo T V (by omega) u
    have := (mv_b (t := T) (z := zC s) gs).1.1
    omega
  · refine Or.inr ⟨T, a1, by omega, a3, by rw [e92 48 (by omega)]; exact a4, by rw [e92 49 (by omega)]; exact a5, by rw [e114]; exact a6, fun T' V u => ?_⟩
    by_cases w : kM s T' < c
    · exact a7 T' V w
    · have := lo T' V (by omega) u
      exact ⟨by omega, fun x => by omega⟩
theorem AMk_take (A : AMk h0 h s most c) (V : VAl s (tS s) (zC s) T) (ec : kM s T = c) (le : c ≤ c') (one : ∀ T', VAl s (tS s) (zC s) T' → c ≤ kM s T' → kM s T' < c' → T' = T) (gt : most < mvT s T (zC s)) (lt : c < c') (e48 : rd h1 92 48 = s 2) (e49 : rd h1 92 49 = (lfT s T (zC s)).toInt) (e114 : ∀ j, 0 ≤ j → j < 24 → rd h1 114 j = T j) : AMk h0 h1 s (mvT s T (zC s)) c' := by
  refine Or.inr ⟨T, V, by omega, rfl, e48, e49, e114, fun T' V' u => ?_⟩
  by_cases w : kM s T' < c
  · rcases A with ⟨a1, a2, a3, a4, a5⟩ | ⟨T0, a1, a2, a3, a4, a5, a6, a7⟩
    · exact absurd w (a2 T' V')
    · have := (a7 T' V' w).1
      exact ⟨by omega, fun _ => by omega⟩
  · rw [one T' V' (by omega) u]
    exact ⟨Int.le_refl _, fun q => by omega⟩
/-- the numbers of a TOWN that comes next -/
theorem win_v (gs : GS s) (fw : few s) (e : EZ z s) (W : LYS s T z) (d0 : 0 ≤ d) (d1 : d < s 2) (bo : ∀ o, 0 ≤ o → o < d → 1 ≤ q o ∧ q o ≤ 50) (bd : 0 ≤ q d ∧ q d < 50) (u1 : posM q d ≤ kM s T) (u2 : kM s T < posM (updT q d (q d + 1)) d) : (∀ o, 0 ≤ o → o < d → vM s T o = q o - 1) ∧ vM s T d = q d := by
  have f3 := fw.1
  have b0 := dig_b gs fw e W (r := 0) (by omega)
  have b1 := dig_b gs fw e W (r := 1) (by omega)
  have b2 := dig_b gs fw e W (r := 2) (by omega)
  unfold kM at u1 u2
  have cc : d = 0 ∨ d = 1 ∨ d = 2 := by omega
  rcases cc with rfl | rfl | rfl
  · rw [pos_0] at u1 u2
    rw [updT_s] at u2
    exact ⟨fun o o0 o1 => by omega, by omega⟩
  · rw [pos_1] at u1 u2
    rw [updT_s, updT_n (by omega)] at u2
    have := bo 0 (by omega) (by omega)
    refine ⟨fun o o0 o1 => ?_, by omega⟩
    rw [show o = 0 by omega]
    omega
  · rw [pos_2] at u1 u2
    rw [updT_s, updT_n (by omega), updT_n (by omega)] at u2
    have := bo 0 (by omega) (by omega)
    have := bo 1 (by omega) (by omega)
    refine ⟨fun o o0 o1 => ?_, by omega⟩
    have cc : o = 0 ∨ o = 1 := by omega
    rcases cc with rfl | rfl <;> omega
/-- none comes behind the last number -/
theorem win_n (gs : GS s) (fw : few s) (e : EZ z s) (W : LYS s T z) (d0 : 0 ≤ d) (d1 : d < s 2) (bo : ∀ o, 0 ≤ o → o < d → 1 ≤ q o ∧ q o ≤ 50) (bd : 2 * (s 0 * s 1) ≤ q d ∧ q d ≤ 50) (u1 : posM q d ≤ kM s T) (u2 : kM s T < posM (updT q d (q d + 1)) (d - 1)) : False := by
  have f3 := fw.1
  have b0 := dig_b gs fw e W (r := 0) (by omega)
  have b1 := dig_b gs fw e W (r := 1) (by omega)
  have b2 := dig_b gs fw e W (r := 2) (by omega)
  have bv := (dig_v gs e W d0 d1).1
  unfold kM at u1 u2
  have cc : d = 0 ∨ d = 1 ∨ d = 2 := by omega
  rcases cc with rfl | rfl | rfl
  · rw [pos_0] at u1
    omega
  · rw [pos_1] at u1
    rw [show (1 : Int) - 1 = 0 by omega, pos_0, updT_n (by omega)] at u2
    have := bo 0 (by omega) (by omega)
    omega
  · rw [pos_2] at u1
    rw [show (2 : Int) - 1 = 1 by omega, pos_1, updT_n (by omega), updT_n (by omega)] at u2
    have := bo 0 (by omega) (by omega)
    have := bo 1 (by omega) (by omega)
    omega
theorem pos_le (d0 : 0 ≤ d) (d1 : d < 3) (bd : q d ≤ 50) (b0 : ∀ o, 0 ≤ o → o < d → q o ≤ 50) : posM q d ≤ posM (updT q d (q d + 1)) d ∧ posM q d < posM (updT q d (q d + 1)) d ∧ posM q d ≤ posM (updT q d (q d + 1)) (d - 1) := by
  have cc : d = 0 ∨ d = 1 ∨ d = 2 := by omega
  rcases cc with rfl | rfl | rfl
  · rw [pos_0, pos_0, pos_n (by omega), updT_s]; omega
  · rw [show (1 : Int) - 1 = 0 by omega, pos_1, pos_1, pos_0, updT_s, updT_n (by omega)]; omega
  · rw [show (2 : Int) - 1 = 1 by omega, pos_2, pos_2, pos_1, updT_s, updT_n (by omega), updT_n (by omega)]; omega
theorem pos_in (d0 : 0 ≤ d) (d1 : d < 2) : posM (updT (updT q d (q d + 1)) (d + 1) 0) (d + 1) = posM q d := by
  have cc : d = 0 ∨ d = 1 := by omega
  rcases cc with rfl | rfl
  · rw [show (0 : Int) + 1 = 1 by omega, pos_1, pos_0, updT_s, updT_n (by omega), updT_s]; omega
  · rw [show (1 : Int) + 1 = 2 by omega, pos_2, pos_1, updT_s, updT_n (by omega), updT_n (by omega), updT_n (by omega), updT_s]; omega
theorem mu_dn (d0 : 0 ≤ d) (d1 : d < 3) (bd : q d ≤ N) (bo : ∀ o, 0 ≤ o → o < d → q o ≤ N) : 1 ≤ muM q N d ∧ muM (updT q d (q d + 1)) N d + 1 ≤ muM q N d ∧ muM (updT q d (q d + 1)) N (d - 1) + 1 ≤ muM q N d := by
  have cc : d = 0 ∨ d = 1 ∨ d = 2 := by omega
  rcases cc with rfl | rfl | rfl
  · rw [mu_0, mu_0, mu_n (by omega), updT_s]; omega
  · have := bo 0 (by omega) (by omega)
    rw [show (1 : Int) - 1 = 0 by omega, mu_1, mu_1, mu_0, updT_s, updT_n (by omega)]; omega
  · have := bo 0 (by omega) (by omega)
    have := bo 1 (by omega) (by omega)
    rw [show (2 : Int) - 1 = 1 by omega, mu_2, mu_2, mu_1, updT_s, updT_n (by omega), updT_n (by omega)]; omega
theorem mu_in (d0 : 0 ≤ d) (d1 : d < 2) (bN : N ≤ 50) : muM (updT (updT q d (q d + 1)) (d + 1) 0) N (d + 1) + 1 ≤ muM q N d := by
  have cc : d = 0 ∨ d = 1 := by omega
  rcases cc with rfl | rfl
  · rw [show (0 : Int) + 1 = 1 by omega, mu_1, mu_0, updT_s, updT_n (by omega), updT_s]; omega
  · rw [show (1 : Int) + 1 = 2 by omega, mu_2, mu_1, updT_s, updT_n (by omega), updT_n (by omega), updT_n (by omega), updT_s]; omega
end MAP
