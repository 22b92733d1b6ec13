abbrev ob (h : AH) (a k : Nat) : Prop := aK h a = k ∧ a < aN h
theorem sw_out (x : Int32) (n : Nat) (hn : n < 2 ^ 31) (h : ∀ k : Nat, k ≤ n → ¬ x = nI k) : x.toInt < 0 ∨ (n : Int) < x.toInt := by
  by_cases h0 : x.toInt < 0
  · exact Or.inl h0
  · refine Or.inr (Int.not_le.mp fun h1 => ?_)
    have e : x = nI x.toInt.toNat := by
      apply Int32.toInt_inj.mp
      rw [nI_toInt (by omega)]
      omega
    exact h _ (by omega) e
theorem gsel {w : Cond} (h : w ∈ k2_sels lw_privs) : w ∈ gt := by
  obtain ⟨q, hq, rfl⟩ := List.mem_map.mp h
  exact List.mem_filter.mpr ⟨List.mem_append_right _ (List.mem_append_left _ h), rfl⟩
theorem gxs {w : Cond} (h : w ∈ xsel) (g : goodWord w = true) : w ∈ gt := List.mem_filter.mpr ⟨List.mem_append_left _ h, g⟩
theorem gm1 {w : Cond} (h : w ∈ tables_1_1) (g : goodWord w = true) : w ∈ gt := List.mem_filter.mpr ⟨List.mem_append_right _ (List.mem_append_right _ (show w ∈ tables_1 from List.mem_append_left _ h)), g⟩
theorem gm2 {w : Cond} (h : w ∈ tables_1_2) (g : goodWord w = true) : w ∈ gt := List.mem_filter.mpr ⟨List.mem_append_right _ (List.mem_append_right _ (show w ∈ tables_1 from List.mem_append_right _ (List.mem_append_left _ h))), g⟩
theorem gm3 {w : Cond} (h : w ∈ tables_1_3) (g : goodWord w = true) : w ∈ gt := List.mem_filter.mpr ⟨List.mem_append_right _ (List.mem_append_right _ (show w ∈ tables_1 from List.mem_append_right _ (List.mem_append_right _ (List.mem_append_left _ h)))), g⟩
theorem gm4 {w : Cond} (h : w ∈ tables_1_4) (g : goodWord w = true) : w ∈ gt := List.mem_filter.mpr ⟨List.mem_append_right _ (List.mem_append_right _ (show w ∈ tables_1 from List.mem_append_right _ (List.mem_append_right _ (List.mem_append_right _ (List.mem_append_left _ h))))), g⟩
theorem gm5 {w : Cond} (h : w ∈ tables_1_5) (g : goodWord w = true) : w ∈ gt := List.mem_filter.mpr ⟨List.mem_append_right _ (List.mem_append_right _ (show w ∈ tables_1 from List.mem_append_right _ (List.mem_append_right _ (List.mem_append_right _ (List.mem_append_right _ (List.mem_append_left _ h)))))), g⟩
theorem gm6 {w : Cond} (h : w ∈ tables_1_6) (g : goodWord w = true) : w ∈ gt := List.mem_filter.mpr ⟨List.mem_append_right _ (List.mem_append_right _ (show w ∈ tables_1 from List.mem_append_right _ (List.mem_append_right _ (List.mem_append_right _ (List.mem_append_right _ (List.mem_append_right _ (List.mem_append_left _ h))))))), g⟩
theorem gm7 {w : Cond} (h : w ∈ tables_1_7) (g : goodWord w = true) : w ∈ gt := List.mem_filter.mpr ⟨List.mem_append_right _ (List.mem_append_right _ (show w ∈ tables_1 from List.mem_append_right _ (List.mem_append_right _ (List.mem_append_right _ (List.mem_append_right _ (List.mem_append_right _ (List.mem_append_right _ (List.mem_append_left _ h)))))))), g⟩
theorem gm8 {w : Cond} (h : w ∈ tables_1_8) (g : goodWord w = true) : w ∈ gt := List.mem_filter.mpr ⟨List.mem_append_right _ (List.mem_append_right _ (show w ∈ tables_1 from List.mem_append_right _ (List.mem_append_right _ (List.mem_append_right _ (List.mem_append_right _ (List.mem_append_right _ (List.mem_append_right _ (List.mem_append_right _ (List.mem_append_left _ h))))))))), g⟩
theorem gm9 {w : Cond} (h : w ∈ tables_1_9) (g : goodWord w = true) : w ∈ gt := List.mem_filter.mpr ⟨List.mem_append_right _ (List.mem_append_right _ (show w ∈ tables_1 from List.mem_append_right _ (List.mem_append_right _ (List.mem_append_right _ (List.mem_append_right _ (List.mem_append_right _ (List.mem_append_right _ (List.mem_append_right _ (List.mem_append_right _ (h)))))))))), g⟩
section RT
variable {G : GG} {p : Program} {l : Launch} {e : Env} {R : Room} {s : State} {m : MethodId} {args : Array Value} {below : List Frame} {meth : Method} {c : Code} {nL : Nat} {Q : State → Prop} {pc : Nat} {lv : List (Nat × Value)} {st : List Value} {h : AH}
theorem r_toph (k : ∀ h' : AH, h' = h → AW G p l e R s m args below meth c nL Q pc lv st h') : AW G p l e R s m args below meth c nL Q pc lv st h := k h rfl
theorem r_topn {a : Nat} (k : ∀ (h' : AH) (a' : Nat), h' = h → a' = a → AW G p l e R s m args below meth c nL Q pc lv (.ref (G.1 + a') :: st) h') : AW G p l e R s m args below meth c nL Q pc lv (.ref (G.1 + a) :: st) h := k h a rfl rfl
theorem kI {post : AH → Int32 → Prop} (k : ∀ h' r, post h' r → AW G p l e R s m args below meth c nL Q pc lv (.int r :: st) h') : ∀ h' v, pI post h' v → AW G p l e R s m args below meth c nL Q pc lv (v.toList ++ st) h' := by
  rintro h' v ⟨r, rfl, hp⟩
  exact k h' r hp
theorem kJ {post : AH → Int64 → Prop} (k : ∀ h' r, post h' r → AW G p l e R s m args below meth c nL Q pc lv (.long r :: st) h') : ∀ h' v, pJ post h' v → AW G p l e R s m args below meth c nL Q pc lv (v.toList ++ st) h' := by
  rintro h' v ⟨r, rfl, hp⟩
  exact k h' r hp
theorem kP {post : AH → Nat → Prop} (k : ∀ h' r, post h' r → AW G p l e R s m args below meth c nL Q pc lv (.ref (G.1 + r) :: st) h') : ∀ h' v, pP G post h' v → AW G p l e R s m args below meth c nL Q pc lv (v.toList ++ st) h' := by
  rintro h' v ⟨r, rfl, hp⟩
  exact k h' r hp
theorem kV {post : AH → Prop} (k : ∀ h', post h' → AW G p l e R s m args below meth c nL Q pc lv st h') : ∀ h' v, pV post h' v → AW G p l e R s m args below meth c nL Q pc lv (v.toList ++ st) h' := by
  rintro h' v ⟨rfl, hp⟩
  exact k h' hp
end RT
theorem lay0 : ∀ w ∈ u_ws RX0 TX0 9, w ∈ gt := by
  show ∀ w ∈ [u_lay RX0 TX0 0, u_lay RX0 TX0 1, u_lay RX0 TX0 2, u_lay RX0 TX0 3, u_lay RX0 TX0 4, u_lay RX0 TX0 5, u_lay RX0 TX0 6, u_lay RX0 TX0 7, u_lay RX0 TX0 8], w ∈ gt
  simp only [List.forall_mem_cons, List.not_mem_nil, false_implies, implies_true, and_true]
  exact ⟨(gm2 (List.mem_of_getElem? (i := 213) rfl) rfl), (gm2 (List.mem_of_getElem? (i := 215) rfl) rfl), (gm2 (List.mem_of_getElem? (i := 217) rfl) rfl), (gm2 (List.mem_of_getElem? (i := 219) rfl) rfl), (gm2 (List.mem_of_getElem? (i := 221) rfl) rfl), (gm2 (List.mem_of_getElem? (i := 223) rfl) rfl), (gm2 (List.mem_of_getElem? (i := 225) rfl) rfl), (gm2 (List.mem_of_getElem? (i := 227) rfl) rfl), (gm2 (List.mem_of_getElem? (i := 229) rfl) rfl)⟩
theorem ci0 : CI 0 RX0 TX0 9 := ⟨rfl, by decide, rfl, lay0, tyX0_ok, nmX0⟩
theorem lay1 : ∀ w ∈ u_ws RX1 TX1 16, w ∈ gt := by
  show ∀ w ∈ [u_lay RX1 TX1 0, u_lay RX1 TX1 1, u_lay RX1 TX1 2, u_lay RX1 TX1 3, u_lay RX1 TX1 4, u_lay RX1 TX1 5, u_lay RX1 TX1 6, u_lay RX1 TX1 7, u_lay RX1 TX1 8, u_lay RX1 TX1 9, u_lay RX1 TX1 10, u_lay RX1 TX1 11, u_lay RX1 TX1 12, u_lay RX1 TX1 13, u_lay RX1 TX1 14, u_lay RX1 TX1 15], w ∈ gt
  simp only [List.forall_mem_cons, List.not_mem_nil, false_implies, implies_true, and_true]
  exact ⟨(gm1 (List.mem_of_getElem? (i := 215) rfl) rfl), (gm1 (List.mem_of_getElem? (i := 217) rfl) rfl), (gm1 (List.mem_of_getElem? (i := 219) rfl) rfl), (gm1 (List.mem_of_getElem? (i := 221) rfl) rfl), (gm1 (List.mem_of_getElem? (i := 223) rfl) rfl), (gm1 (List.mem_of_getElem? (i := 225) rfl) rfl), (gm1 (List.mem_of_getElem? (i := 227) rfl) rfl), (gm1 (List.mem_of_getElem? (i := 229) rfl) rfl), (gm1 (List.mem_of_getElem? (i := 231) rfl) rfl), (gm1 (List.mem_of_getElem? (i := 233) rfl) rfl), (gm1 (List.mem_of_getElem? (i := 235) rfl) rfl), (gm1 (List.mem_of_getElem? (i := 237) rfl) rfl), (gm1 (List.mem_of_getElem? (i := 239) rfl) rfl), (gm2 (List.mem_of_getElem? (i := 1) rfl) rfl), (gm2 (List.mem_of_getElem? (i := 3) rfl) rfl), (gm2 (List.mem_of_getElem? (i := 5) rfl) rfl)⟩
theorem ci1 : CI 1 RX1 TX1 16 := ⟨rfl, by decide, rfl, lay1, tyX1_ok, nmX1⟩
theorem lay2 : ∀ w ∈ u_ws RX2 TX2 14, w ∈ gt := by
  show ∀ w ∈ [u_lay RX2 TX2 0, u_lay RX2 TX2 1, u_lay RX2 TX2 2, u_lay RX2 TX2 3, u_lay RX2 TX2 4, u_lay RX2 TX2 5, u_lay RX2 TX2 6, u_lay RX2 TX2 7, u_lay RX2 TX2 8, u_lay RX2 TX2 9, u_lay RX2 TX2 10, u_lay RX2 TX2 11, u_lay RX2 TX2 12, u_lay RX2 TX2 13], w ∈ gt
  simp only [List.forall_mem_cons, List.not_mem_nil, false_implies, implies_true, and_true]
  exact ⟨(gm2 (List.mem_of_getElem? (i := 46) rfl) rfl), (gm2 (List.mem_of_getElem? (i := 48) rfl) rfl), (gm2 (List.mem_of_getElem? (i := 50) rfl) rfl), (gm2 (List.mem_of_getElem? (i := 52) rfl) rfl), (gm2 (List.mem_of_getElem? (i := 54) rfl) rfl), (gm2 (List.mem_of_getElem? (i := 56) rfl) rfl), (gm2 (List.mem_of_getElem? (i := 58) rfl) rfl), (gm2 (List.mem_of_getElem? (i := 60) rfl) rfl), (gm2 (List.mem_of_getElem? (i := 62) rfl) rfl), (gm2 (List.mem_of_getElem? (i := 64) rfl) rfl), (gm2 (List.mem_of_getElem? (i := 66) rfl) rfl), (gm2 (List.mem_of_getElem? (i := 68) rfl) rfl), (gm2 (List.mem_of_getElem? (i := 42) rfl) rfl), (gm2 (List.mem_of_getElem? (i := 44) rfl) rfl)⟩
theorem ci2 : CI 2 RX2 TX2 14 := ⟨rfl, by decide, rfl, lay2, tyX2_ok, nmX2⟩
theorem lay3 : ∀ w ∈ u_ws RX3 TX3 15, w ∈ gt := by
  show ∀ w ∈ [u_lay RX3 TX3 0, u_lay RX3 TX3 1, u_lay RX3 TX3 2, u_lay RX3 TX3 3, u_lay RX3 TX3 4, u_lay RX3 TX3 5, u_lay RX3 TX3 6, u_lay RX3 TX3 7, u_lay RX3 TX3 8, u_lay RX3 TX3 9, u_lay RX3 TX3 10, u_lay RX3 TX3 11, u_lay RX3 TX3 12, u_lay RX3 TX3 13, u_lay RX3 TX3 14], w ∈ gt
  simp only [List.forall_mem_cons, List.not_mem_nil, false_implies, implies_true, and_true]
  exact ⟨(gm2 (List.mem_of_getElem? (i := 88) rfl) rfl), (gm2 (List.mem_of_getElem? (i := 89) rfl) rfl), (gm2 (List.mem_of_getElem? (i := 90) rfl) rfl), (gm2 (List.mem_of_getElem? (i := 91) rfl) rfl), (gm2 (List.mem_of_getElem? (i := 92) rfl) rfl), (gm2 (List.mem_of_getElem? (i := 93) rfl) rfl), (gm2 (List.mem_of_getElem? (i := 94) rfl) rfl), (gm2 (List.mem_of_getElem? (i := 95) rfl) rfl), (gm2 (List.mem_of_getElem? (i := 96) rfl) rfl), (gm2 (List.mem_of_getElem? (i := 97) rfl) rfl), (gm2 (List.mem_of_getElem? (i := 98) rfl) rfl), (gm2 (List.mem_of_getElem? (i := 99) rfl) rfl), (gm2 (List.mem_of_getElem? (i := 82) rfl) rfl), (gm2 (List.mem_of_getElem? (i := 84) rfl) rfl), (gm2 (List.mem_of_getElem? (i := 86) rfl) rfl)⟩
theorem ci3 : CI 3 RX3 TX3 15 := ⟨rfl, by decide, rfl, lay3, tyX3_ok, nmX3⟩
theorem lay4 : ∀ w ∈ u_ws RX4 TX4 6, w ∈ gt := by
  show ∀ w ∈ [u_lay RX4 TX4 0, u_lay RX4 TX4 1, u_lay RX4 TX4 2, u_lay RX4 TX4 3, u_lay RX4 TX4 4, u_lay RX4 TX4 5], w ∈ gt
  simp only [List.forall_mem_cons, List.not_mem_nil, false_implies, implies_true, and_true]
  exact ⟨(gm1 (List.mem_of_getElem? (i := 119) rfl) rfl), (gm1 (List.mem_of_getElem? (i := 121) rfl) rfl), (gm1 (List.mem_of_getElem? (i := 123) rfl) rfl), (gm1 (List.mem_of_getElem? (i := 125) rfl) rfl), (gm1 (List.mem_of_getElem? (i := 127) rfl) rfl), (gm1 (List.mem_of_getElem? (i := 129) rfl) rfl)⟩
theorem ci4 : CI 4 RX4 TX4 6 := ⟨rfl, by decide, rfl, lay4, tyX4_ok, nmX4⟩
theorem lay5 : ∀ w ∈ u_ws RX5 TX5 5, w ∈ gt := by
  show ∀ w ∈ [u_lay RX5 TX5 0, u_lay RX5 TX5 1, u_lay RX5 TX5 2, u_lay RX5 TX5 3, u_lay RX5 TX5 4], w ∈ gt
  simp only [List.forall_mem_cons, List.not_mem_nil, false_implies, implies_true, and_true]
  exact ⟨(gm2 (List.mem_of_getElem? (i := 143) rfl) rfl), (gm2 (List.mem_of_getElem? (i := 145) rfl) rfl), (gm2 (List.mem_of_getElem? (i := 147) rfl) rfl), (gm2 (List.mem_of_getElem? (i := 149) rfl) rfl), (gm2 (List.mem_of_getElem? (i := 151) rfl) rfl)⟩
theorem ci5 : CI 5 RX5 TX5 5 := ⟨rfl, by decide, rfl, lay5, tyX5_ok, nmX5⟩
theorem lay6 : ∀ w ∈ u_ws RX6 TX6 15, w ∈ gt := by
  show ∀ w ∈ [u_lay RX6 TX6 0, u_lay RX6 TX6 1, u_lay RX6 TX6 2, u_lay RX6 TX6 3, u_lay RX6 TX6 4, u_lay RX6 TX6 5, u_lay RX6 TX6 6, u_lay RX6 TX6 7, u_lay RX6 TX6 8, u_lay RX6 TX6 9, u_lay RX6 TX6 10, u_lay RX6 TX6 11, u_lay RX6 TX6 12, u_lay RX6 TX6 13, u_lay RX6 TX6 14], w ∈ gt
  simp only [List.forall_mem_cons, List.not_mem_nil, false_implies, implies_true, and_true]
  exact ⟨(gm3 (List.mem_of_getElem? (i := 14) rfl) rfl), (gm3 (List.mem_of_getElem? (i := 16) rfl) rfl), (gm3 (List.mem_of_getElem? (i := 18) rfl) rfl), (gm3 (List.mem_of_getElem? (i := 20) rfl) rfl), (gm3 (List.mem_of_getElem? (i := 22) rfl) rfl), (gm3 (List.mem_of_getElem? (i := 24) rfl) rfl), (gm3 (List.mem_of_getElem? (i := 26) rfl) rfl), (gm3 (List.mem_of_getElem? (i := 28) rfl) rfl), (gm3 (List.mem_of_getElem? (i := 30) rfl) rfl), (gm3 (List.mem_of_getElem? (i := 32) rfl) rfl), (gm3 (List.mem_of_getElem? (i := 34) rfl) rfl), (gm3 (List.mem_of_getElem? (i := 36) rfl) rfl), (gm3 (List.mem_of_getElem? (i := 38) rfl) rfl), (gm3 (List.mem_of_getElem? (i := 40) rfl) rfl), (gm3 (List.mem_of_getElem? (i := 42) rfl) rfl)⟩
theorem ci6 : CI 6 RX6 TX6 15 := ⟨rfl, by decide, rfl, lay6, tyX6_ok, nmX6⟩
theorem lay7 : ∀ w ∈ u_ws RX8 TX8 3, w ∈ gt := by
  show ∀ w ∈ [u_lay RX8 TX8 0, u_lay RX8 TX8 1, u_lay RX8 TX8 2], w ∈ gt
  simp only [List.forall_mem_cons, List.not_mem_nil, false_implies, implies_true, and_true]
  exact ⟨(gm2 (List.mem_of_getElem? (i := 123) rfl) rfl), (gm2 (List.mem_of_getElem? (i := 125) rfl) rfl), (gm2 (List.mem_of_getElem? (i := 127) rfl) rfl)⟩
theorem ci7 : CI 7 RX8 TX8 3 := ⟨rfl, by decide, rfl, lay7, tyX8_ok, nmX8⟩
theorem lay8 : ∀ w ∈ u_ws RX9 TX9 6, w ∈ gt := by
  show ∀ w ∈ [u_lay RX9 TX9 0, u_lay RX9 TX9 1, u_lay RX9 TX9 2, u_lay RX9 TX9 3, u_lay RX9 TX9 4, u_lay RX9 TX9 5], w ∈ gt
  simp only [List.forall_mem_cons, List.not_mem_nil, false_implies, implies_true, and_true]
  exact ⟨(gm2 (List.mem_of_getElem? (i := 176) rfl) rfl), (gm2 (List.mem_of_getElem? (i := 178) rfl) rfl), (gm2 (List.mem_of_getElem? (i := 180) rfl) rfl), (gm2 (List.mem_of_getElem? (i := 182) rfl) rfl), (gm2 (List.mem_of_getElem? (i := 184) rfl) rfl), (gm2 (List.mem_of_getElem? (i := 186) rfl) rfl)⟩
theorem ci8 : CI 8 RX9 TX9 6 := ⟨rfl, by decide, rfl, lay8, tyX9_ok, nmX9⟩
theorem lay9 : ∀ w ∈ u_ws RX10 TX10 5, w ∈ gt := by
  show ∀ w ∈ [u_lay RX10 TX10 0, u_lay RX10 TX10 1, u_lay RX10 TX10 2, u_lay RX10 TX10 3, u_lay RX10 TX10 4], w ∈ gt
  simp only [List.forall_mem_cons, List.not_mem_nil, false_implies, implies_true, and_true]
  exact ⟨(gm1 (List.mem_of_getElem? (i := 150) rfl) rfl), (gm1 (List.mem_of_getElem? (i := 152) rfl) rfl), (gm1 (List.mem_of_getElem? (i := 154) rfl) rfl), (gm1 (List.mem_of_getElem? (i := 156) rfl) rfl), (gm1 (List.mem_of_getElem? (i := 158) rfl) rfl)⟩
theorem ci9 : CI 9 RX10 TX10 5 := ⟨rfl, by decide, rfl, lay9, tyX10_ok, nmX10⟩
theorem lay10 : ∀ w ∈ u_ws RX11 TX11 15, w ∈ gt := by
  show ∀ w ∈ [u_lay RX11 TX11 0, u_lay RX11 TX11 1, u_lay RX11 TX11 2, u_lay RX11 TX11 3, u_lay RX11 TX11 4, u_lay RX11 TX11 5, u_lay RX11 TX11 6, u_lay RX11 TX11 7, u_lay RX11 TX11 8, u_lay RX11 TX11 9, u_lay RX11 TX11 10, u_lay RX11 TX11 11, u_lay RX11 TX11 12, u_lay RX11 TX11 13, u_lay RX11 TX11 14], w ∈ gt
  simp only [List.forall_mem_cons, List.not_mem_nil, false_implies, implies_true, and_true]
  exact ⟨(gm3 (List.mem_of_getElem? (i := 60) rfl) rfl), (gm3 (List.mem_of_getElem? (i := 62) rfl) rfl), (gm3 (List.mem_of_getElem? (i := 64) rfl) rfl), (gm3 (List.mem_of_getElem? (i := 66) rfl) rfl), (gm3 (List.mem_of_getElem? (i := 68) rfl) rfl), (gm3 (List.mem_of_getElem? (i := 70) rfl) rfl), (gm3 (List.mem_of_getElem? (i := 72) rfl) rfl), (gm3 (List.mem_of_getElem? (i := 74) rfl) rfl), (gm3 (List.mem_of_getElem? (i := 76) rfl) rfl), (gm3 (List.mem_of_getElem? (i := 78) rfl) rfl), (gm3 (List.mem_of_getElem? (i := 80) rfl) rfl), (gm3 (List.mem_of_getElem? (i := 82) rfl) rfl), (gm3 (List.mem_of_getElem? (i := 84) rfl) rfl), (gm3 (List.mem_of_getElem? (i := 86) rfl) rfl), (gm3 (List.mem_of_getElem? (i := 88) rfl) rfl)⟩
theorem ci10 : CI 10 RX11 TX11 15 := ⟨rfl, by decide, rfl, lay10, tyX11_ok, nmX11⟩
theorem lay11 : ∀ w ∈ u_ws RX12 TX12 53, w ∈ gt := by
  show ∀ w ∈ [u_lay RX12 TX12 0, u_lay RX12 TX12 1, u_lay RX12 TX12 2, u_lay RX12 TX12 3, u_lay RX12 TX12 4, u_lay RX12 TX12 5, u_lay RX12 TX12 6, u_lay RX12 TX12 7, u_lay RX12 TX12 8, u_lay RX12 TX12 9, u_lay RX12 TX12 10, u_lay RX12 TX12 11, u_lay RX12 TX12 12, u_lay RX12 TX12 13, u_lay RX12 TX12 14, u_lay RX12 TX12 15, u_lay RX12 TX12 16, u_lay RX12 TX12 17, u_lay RX12 TX12 18, u_lay RX12 TX12 19, u_lay RX12 TX12 20, u_lay RX12 TX12 21, u_lay RX12 TX12 22, u_lay RX12 TX12 23, u_lay RX12 TX12 24, u_lay RX12 TX12 25, u_lay RX12 TX12 26, u_lay RX12 TX12 27, u_lay RX12 TX12 28, u_lay RX12 TX12 29, u_lay RX12 TX12 30, u_lay RX12 TX12 31, u_lay RX12 TX12 32, u_lay RX12 TX12 33, u_lay RX12 TX12 34, u_lay RX12 TX12 35, u_lay RX12 TX12 36, u_lay RX12 TX12 37, u_lay RX12 TX12 38, u_lay RX12 TX12 39, u_lay RX12 TX12 40, u_lay RX12 TX12 41, u_lay RX12 TX12 42, u_lay RX12 TX12 43, u_lay RX12 TX12 44, u_lay RX12 TX12 45, u_lay RX12 TX12 46, u_lay RX12 TX12 47, u_lay RX12 TX12 48, u_lay RX12 TX12 49, u_lay RX12 TX12 50, u_lay RX12 TX12 51, u_lay RX12 TX12 52], w ∈ gt
  simp only [List.forall_mem_cons, List.not_mem_nil, false_implies, implies_true, and_true]
  exact ⟨(gm7 (List.mem_of_getElem? (i := 35) rfl) rfl), (gm7 (List.mem_of_getElem? (i := 37) rfl) rfl), (gm7 (List.mem_of_getElem? (i := 39) rfl) rfl), (gm7 (List.mem_of_getElem? (i := 41) rfl) rfl), (gm7 (List.mem_of_getElem? (i := 43) rfl) rfl), (gm7 (List.mem_of_getElem? (i := 45) rfl) rfl), (gm7 (List.mem_of_getElem? (i := 47) rfl) rfl), (gm7 (List.mem_of_getElem? (i := 49) rfl) rfl), (gm7 (List.mem_of_getElem? (i := 51) rfl) rfl), (gm7 (List.mem_of_getElem? (i := 53) rfl) rfl), (gm7 (List.mem_of_getElem? (i := 55) rfl) rfl), (gm7 (List.mem_of_getElem? (i := 57) rfl) rfl), (gm7 (List.mem_of_getElem? (i := 59) rfl) rfl), (gm7 (List.mem_of_getElem? (i := 61) rfl) rfl), (gm7 (List.mem_of_getElem? (i := 63) rfl) rfl), (gm7 (List.mem_of_getElem? (i := 65) rfl) rfl), (gm7 (List.mem_of_getElem? (i := 67) rfl) rfl), (gm7 (List.mem_of_getElem? (i := 69) rfl) rfl), (gm7 (List.mem_of_getElem? (i := 71) rfl) rfl), (gm7 (List.mem_of_getElem? (i := 73) rfl) rfl), (gm7 (List.mem_of_getElem? (i := 75) rfl) rfl), (gm7 (List.mem_of_getElem? (i := 77) rfl) rfl), (gm7 (List.mem_of_getElem? (i := 79) rfl) rfl), (gm7 (List.mem_of_getElem? (i := 81) rfl) rfl), (gm7 (List.mem_of_getElem? (i := 83) rfl) rfl), (gm7 (List.mem_of_getElem? (i := 85) rfl) rfl), (gm7 (List.mem_of_getElem? (i := 87) rfl) rfl), (gm7 (List.mem_of_getElem? (i := 89) rfl) rfl), (gm7 (List.mem_of_getElem? (i := 91) rfl) rfl), (gm7 (List.mem_of_getElem? (i := 93) rfl) rfl), (gm7 (List.mem_of_getElem? (i := 95) rfl) rfl), (gm7 (List.mem_of_getElem? (i := 97) rfl) rfl), (gm7 (List.mem_of_getElem? (i := 99) rfl) rfl), (gm7 (List.mem_of_getElem? (i := 101) rfl) rfl), (gm7 (List.mem_of_getElem? (i := 103) rfl) rfl), (gm7 (List.mem_of_getElem? (i := 105) rfl) rfl), (gm7 (List.mem_of_getElem? (i := 107) rfl) rfl), (gm7 (List.mem_of_getElem? (i := 109) rfl) rfl), (gm7 (List.mem_of_getElem? (i := 111) rfl) rfl), (gm7 (List.mem_of_getElem? (i := 113) rfl) rfl), (gm7 (List.mem_of_getElem? (i := 115) rfl) rfl), (gm7 (List.mem_of_getElem? (i := 117) rfl) rfl), (gm7 (List.mem_of_getElem? (i := 119) rfl) rfl), (gm7 (List.mem_of_getElem? (i := 121) rfl) rfl), (gm7 (List.mem_of_getElem? (i := 123) rfl) rfl), (gm7 (List.mem_of_getElem? (i := 125) rfl) rfl), (gm7 (List.mem_of_getElem? (i := 127) rfl) rfl), (gm7 (List.mem_of_getElem? (i := 129) rfl) rfl), (gm7 (List.mem_of_getElem? (i := 131) rfl) rfl), (gm7 (List.mem_of_getElem? (i := 133) rfl) rfl), (gm7 (List.mem_of_getElem? (i := 135) rfl) rfl), (gm7 (List.mem_of_getElem? (i := 137) rfl) rfl), (gm7 (List.mem_of_getElem? (i := 139) rfl) rfl)⟩
theorem ci11 : CI 11 RX12 TX12 53 := ⟨rfl, by decide, rfl, lay11, tyX12_ok, nmX12⟩
def mx (x y : Int32) : Int32 := if x < y then y else x
def mn (x y : Int32) : Int32 := if y < x then y else x
section RX
variable {G : GG} {p : Program} {l : Launch} {e : Env} {R : Room} {s : State} {m : MethodId} {args : Array Value} {below : List Frame} {meth : Method} {c : Code} {nL : Nat} {Q : State → Prop} {cc : ByteArray} {own : String} {n0 s0 fr lo : Nat}
  {pc : Nat} {lv : List (Nat × Value)} {st : List Value} {h : AH} {index : Nat}
theorem r_mmax (C : Cx G p R s m args meth c nL cc own n0 s0 fr lo) {x y : Int32} (W1 : Cond.methodLink own index Lib.Math.max.name ∈ gt) (W2 : Cond.static Lib.Math.max.name ∈ gt) (W3 : Cond.initialized "java/lang/Math" ∈ gt) (W4 : Cond.code Lib.Math.max.name Lib.Math.max.code 2 (some .int) ∈ gt)
    (hfr : 1 ≤ fr ∧ (st.map fun v => v.category).sum + 13 ≤ lo) (hd : decode cc pc = .ok (.invokestatic index, 3)) (kk : AW G p l e R s m args below meth c nL Q (pc + 3) lv (.int (mx x y) :: st) h) : AW G p l e R s m args below meth c nL Q pc lv (.int y :: .int x :: st) h := by
  intro H locs cells slots ls hR hlo hl
  have hts := C.2.2.2.2.1
  have hRe := C.2.2.2.2.2.2.2.2.1
  refine W_tight fun t1 t2 => ?_
  have hro := C.room hR t1 t2
  exact va_mmax C.1 C.2.1 (by rw [C.2.2.1]; exact hl.1.symm) C.2.2.2.1 (hts _ W1) (hts _ W2) (hts _ W3) (hts _ W4) (by subst hRe; exact hfr.1) (by subst hRe; exact hfr.2) (by omega) (by omega) hd (kk H locs _ _ ls hR hlo hl)
theorem r_mmin (C : Cx G p R s m args meth c nL cc own n0 s0 fr lo) {x y : Int32} (W1 : Cond.methodLink own index Lib.Math.min.name ∈ gt) (W2 : Cond.static Lib.Math.min.name ∈ gt) (W3 : Cond.initialized "java/lang/Math" ∈ gt) (W4 : Cond.code Lib.Math.min.name Lib.Math.min.code 2 (some .int) ∈ gt)
    (hfr : 1 ≤ fr ∧ (st.map fun v => v.category).sum + 13 ≤ lo) (hd : decode cc pc = .ok (.invokestatic index, 3)) (kk : AW G p l e R s m args below meth c nL Q (pc + 3) lv (.int (mn x y) :: st) h) : AW G p l e R s m args below meth c nL Q pc lv (.int y :: .int x :: st) h := by
  intro H locs cells slots ls hR hlo hl
  have hts := C.2.2.2.2.1
  have hRe := C.2.2.2.2.2.2.2.2.1
  refine W_tight fun t1 t2 => ?_
  have hro := C.room hR t1 t2
  exact va_mmin C.1 C.2.1 (by rw [C.2.2.1]; exact hl.1.symm) C.2.2.2.1 (hts _ W1) (hts _ W2) (hts _ W3) (hts _ W4) (by subst hRe; exact hfr.1) (by subst hRe; exact hfr.2) (by omega) (by omega) hd (kk H locs _ _ ls hR hlo hl)
end RX
