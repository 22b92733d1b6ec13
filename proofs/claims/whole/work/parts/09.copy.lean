section RCP
variable {G : GG} {p : Program} {l : Launch} {e : Env} {R : Room} {s : State} {m : MethodId} {args : Array Value} {below : List Frame} {meth : Method} {c : Code} {nL : Nat} {Q : State → Prop} {cc : ByteArray} {own : String} {n0 s0 fr lo : Nat}
  {pc : Nat} {lv : List (Nat × Value)} {st : List Value} {h : AH} {a index : Nat}
theorem r_copyI (C : Cx G p R s m args meth c nL cc own n0 s0 fr lo) {a0 : Nat} {sp dp n : Int32} (W1 : Cond.methodLink own index arraycopyName ∈ gt) (W2 : Cond.native arraycopyName ∈ gt) (W3 : Cond.static arraycopyName ∈ gt) (W4 : Cond.initialized "java/lang/System" ∈ gt)
    (hk0 : aK h a0 = 13 ∧ a0 < aN h) (hk : aK h a = 13 ∧ a < aN h) (h1 : ¬ sp < 0) (h2 : ¬ dp < 0) (h3 : ¬ n < 0) (h4 : sp.toNatClampNeg + n.toNatClampNeg ≤ aL h a0) (h5 : dp.toNatClampNeg + n.toNatClampNeg ≤ aL h a)
    (hfr : 1 ≤ fr ∧ (st.map fun v => v.category).sum + (nativeFrameWords "java/lang/System" "arraycopy" 5 + 11) ≤ lo) (hd : decode cc pc = .ok (.invokestatic index, 3))
    (kk : AW G p l e R s m args below meth c nL Q (pc + 3) lv st (hRI h a (va_cpy (aI h a0) (aI h a) sp.toNatClampNeg dp.toNatClampNeg n.toNatClampNeg))) : AW G p l e R s m args below meth c nL Q pc lv (.int n :: .int dp :: .ref (G.1 + a) :: .int sp :: .ref (G.1 + a0) :: st) h := by
  have nn : ∀ z : Int32, ¬ z < 0 → z.toInt = (z.toNatClampNeg : Int) := by
    intro z hz
    have hz0 : (0 : Int) ≤ z.toInt := by
      have := Int32.not_lt.mp hz
      simpa using Int32.le_iff_toInt_le.mp this
    show z.toInt = ((z.toInt.toNat : Nat) : Int)
    omega
  intro H locs cells slots ls hR hlo hlv
  have hts := C.2.2.2.2.1
  have hRe := C.2.2.2.2.2.2.2.2.1
  have hat0 := hR.1 a0 hk0.2 (by omega)
  rw [EE_I hk0.1 (by omega)] at hat0
  have hat := hR.1 a hk.2 (by omega)
  rw [EE_I hk.1 (by omega)] at hat
  have hc0 : H[G.1 + a0]? = some (vp_cell (G.2.2.2 13) (aL h a0, .inl (aI h a0))) := hat0
  have hc1 : H[G.1 + a]? = some (vp_cell (G.2.2.2 13) (aL h a, .inl (aI h a))) := hat
  intro T hT X
  obtain ⟨-, k0, hq0, cm0, hkk0⟩ := (C.2.2.2.2.2.1.2 1 _ rfl).1 (aL h a0) (fun j => Value.int (aI h a0 j))
  obtain ⟨-, k1, hq1, cm1, hkk1⟩ := (C.2.2.2.2.2.1.2 1 _ rfl).1 (aL h a) (fun j => Value.int (aI h a j))
  obtain ⟨vm', X', step⟩ := X.arraycopy C.1 C.2.2.2.1 (hts _ W1) (hts _ W2) (hts _ W3) (hts _ W4) (src := G.1 + a0) (dst := G.1 + a) (cs := vp_cell (G.2.2.2 13) (aL h a0, .inl (aI h a0))) (cd := vp_cell (G.2.2.2 13) (aL h a, .inl (aI h a))) (srcPos := sp) (destPos := dp) (n := n) (by rw [hT]; exact hc0) (by rw [hT]; exact hc1)
    (fun _ h => by cases h) (fun _ h => by cases h) (fun h => by cases h) (fun h => by cases h) hq0 hq1 hkk0 hkk1 rfl h1 h2 h3
    (by rw [nn sp h1, nn n h3]; show ¬ _ > ((arrV (G.2.2.2 13) (aL h a0) (fun j => Value.int (aI h a0 j))).slots.size : Int); rw [arrV_size]; omega)
    (by rw [nn dp h2, nn n h3]; show ¬ _ > ((arrV (G.2.2.2 13) (aL h a) (fun j => Value.int (aI h a j))).slots.size : Int); rw [arrV_size]; omega)
    (fun vm₁ _ i hi => by
      have e : (vp_cell (G.2.2.2 13) (aL h a0, .inl (aI h a0))).slots.getD (sp.toNatClampNeg + i) .null = Value.int (aI h a0 (sp.toNatClampNeg + i)) := by
        show (arrV (G.2.2.2 13) (aL h a0) (fun j => Value.int (aI h a0 j))).slots.getD _ _ = _
        rw [Array.getD_eq_getD_getElem?, arrV_read _ _ (by omega)]
        rfl
      refine ⟨?_, ?_⟩
      · rw [e]; rfl
      · rw [e]
        exact trivial)
    (g := F0 m pc ls (.int n :: .int dp :: .ref (G.1 + a) :: .int sp :: .ref (G.1 + a0) :: st)) rfl (by rw [C.2.2.1]; exact hlv.1) (rest := st) rfl (by rw [C.2.1]; exact hd) (by subst hRe; exact hfr.1) (by subst hRe; show 2 * 0 + _ + _ ≤ lo; have := hfr.2; omega)
  have e1 : copied (vp_cell (G.2.2.2 13) (aL h a0, .inl (aI h a0))) (vp_cell (G.2.2.2 13) (aL h a, .inl (aI h a))) sp dp n = vp_cell (G.2.2.2 13) (aL h a, .inl (va_cpy (aI h a0) (aI h a) sp.toNatClampNeg dp.toNatClampNeg n.toNatClampNeg)) := va_copied (fun z => Value.int z) (G.2.2.2 13) (G.2.2.2 13) (aI h a0) (aI h a) h4
  rw [e1] at X' step
  have hl : G.1 + a < H.size := (Array.getElem?_eq_some_iff.mp hc1).1
  have hself : (H.setIfInBounds (G.1 + a) (vp_cell (G.2.2.2 13) (aL h a, .inl (va_cpy (aI h a0) (aI h a) sp.toNatClampNeg dp.toNatClampNeg n.toNatClampNeg))))[G.1 + a]? = some (vp_cell (G.2.2.2 13) (aL h a, .inl (va_cpy (aI h a0) (aI h a) sp.toNatClampNeg dp.toNatClampNeg n.toNatClampNeg))) := by simp [Array.getElem?_setIfInBounds, hl]
  have oq : ∀ q : Nat, q ≠ G.1 + a → (H.setIfInBounds (G.1 + a) (vp_cell (G.2.2.2 13) (aL h a, .inl (va_cpy (aI h a0) (aI h a) sp.toNatClampNeg dp.toNatClampNeg n.toNatClampNeg))))[q]? = H[q]? := fun q hq => by simp [Array.getElem?_setIfInBounds, Ne.symm hq]
  obtain ⟨t, a1, b1⟩ := kk (H.setIfInBounds (G.1 + a) (vp_cell (G.2.2.2 13) (aL h a, .inl (va_cpy (aI h a0) (aI h a) sp.toNatClampNeg dp.toNatClampNeg n.toNatClampNeg)))) _ cells slots ls
    (hR.store hk.2 (by omega) (by rw [EE_I (show aK (hRI h a _) a = 13 from hk.1) (by omega)]; show (H.setIfInBounds _ _)[G.1 + a]? = _; rw [hself]; show _ = some (vp_cell _ (_, .inl (va_up (aI h) a _ a))); rw [up_s]; rfl) (by simp) hc1 hself (by show (arrV _ _ _).slots.size = (arrV _ _ _).slots.size; rw [arrV_size, arrV_size]) oq rfl rfl rfl (fun b hb => EE_hRI hb))
    (fun q hq => by
      rcases List.mem_append.mp hq with h | h
      · exact hlo q h
      · obtain ⟨z, -, hz⟩ := List.mem_map.mp h
        rw [← hz]
        exact Nat.le_add_right _ _) hlv _ (by rw [← hT]; rfl) X'
  exact ⟨t, step t a1, b1⟩
theorem r_copyJ (C : Cx G p R s m args meth c nL cc own n0 s0 fr lo) {a0 : Nat} {sp dp n : Int32} (W1 : Cond.methodLink own index arraycopyName ∈ gt) (W2 : Cond.native arraycopyName ∈ gt) (W3 : Cond.static arraycopyName ∈ gt) (W4 : Cond.initialized "java/lang/System" ∈ gt)
    (hk0 : aK h a0 = 14 ∧ a0 < aN h) (hk : aK h a = 14 ∧ a < aN h) (h1 : ¬ sp < 0) (h2 : ¬ dp < 0) (h3 : ¬ n < 0) (h4 : sp.toNatClampNeg + n.toNatClampNeg ≤ aL h a0) (h5 : dp.toNatClampNeg + n.toNatClampNeg ≤ aL h a)
    (hfr : 1 ≤ fr ∧ (st.map fun v => v.category).sum + (nativeFrameWords "java/lang/System" "arraycopy" 5 + 11) ≤ lo) (hd : decode cc pc = .ok (.invokestatic index, 3))
    (kk : AW G p l e R s m args below meth c nL Q (pc + 3) lv st (hRJ h a (va_cpy (aJ h a0) (aJ h a) sp.toNatClampNeg dp.toNatClampNeg n.toNatClampNeg))) : AW G p l e R s m args below meth c nL Q pc lv (.int n :: .int dp :: .ref (G.1 + a) :: .int sp :: .ref (G.1 + a0) :: st) h := by
  have nn : ∀ z : Int32, ¬ z < 0 → z.toInt = (z.toNatClampNeg : Int) := by
    intro z hz
    have hz0 : (0 : Int) ≤ z.toInt := by
      have := Int32.not_lt.mp hz
      simpa using Int32.le_iff_toInt_le.mp this
    show z.toInt = ((z.toInt.toNat : Nat) : Int)
    omega
  intro H locs cells slots ls hR hlo hlv
  have hts := C.2.2.2.2.1
  have hRe := C.2.2.2.2.2.2.2.2.1
  have hat0 := hR.1 a0 hk0.2 (by omega)
  rw [EE_J hk0.1] at hat0
  have hat := hR.1 a hk.2 (by omega)
  rw [EE_J hk.1] at hat
  have hc0 : H[G.1 + a0]? = some (vp_cell (G.2.2.2 14) (aL h a0, .inr (.inl (aJ h a0)))) := hat0
  have hc1 : H[G.1 + a]? = some (vp_cell (G.2.2.2 14) (aL h a, .inr (.inl (aJ h a)))) := hat
  intro T hT X
  obtain ⟨-, k0, hq0, cm0, hkk0⟩ := (C.2.2.2.2.2.1.2 2 _ rfl).1 (aL h a0) (fun j => Value.long (aJ h a0 j))
  obtain ⟨-, k1, hq1, cm1, hkk1⟩ := (C.2.2.2.2.2.1.2 2 _ rfl).1 (aL h a) (fun j => Value.long (aJ h a j))
  obtain ⟨vm', X', step⟩ := X.arraycopy C.1 C.2.2.2.1 (hts _ W1) (hts _ W2) (hts _ W3) (hts _ W4) (src := G.1 + a0) (dst := G.1 + a) (cs := vp_cell (G.2.2.2 14) (aL h a0, .inr (.inl (aJ h a0)))) (cd := vp_cell (G.2.2.2 14) (aL h a, .inr (.inl (aJ h a)))) (srcPos := sp) (destPos := dp) (n := n) (by rw [hT]; exact hc0) (by rw [hT]; exact hc1)
    (fun _ h => by cases h) (fun _ h => by cases h) (fun h => by cases h) (fun h => by cases h) hq0 hq1 hkk0 hkk1 rfl h1 h2 h3
    (by rw [nn sp h1, nn n h3]; show ¬ _ > ((arrV (G.2.2.2 14) (aL h a0) (fun j => Value.long (aJ h a0 j))).slots.size : Int); rw [arrV_size]; omega)
    (by rw [nn dp h2, nn n h3]; show ¬ _ > ((arrV (G.2.2.2 14) (aL h a) (fun j => Value.long (aJ h a j))).slots.size : Int); rw [arrV_size]; omega)
    (fun vm₁ _ i hi => by
      have e : (vp_cell (G.2.2.2 14) (aL h a0, .inr (.inl (aJ h a0)))).slots.getD (sp.toNatClampNeg + i) .null = Value.long (aJ h a0 (sp.toNatClampNeg + i)) := by
        show (arrV (G.2.2.2 14) (aL h a0) (fun j => Value.long (aJ h a0 j))).slots.getD _ _ = _
        rw [Array.getD_eq_getD_getElem?, arrV_read _ _ (by omega)]
        rfl
      refine ⟨?_, ?_⟩
      · rw [e]; rfl
      · rw [e]
        exact trivial)
    (g := F0 m pc ls (.int n :: .int dp :: .ref (G.1 + a) :: .int sp :: .ref (G.1 + a0) :: st)) rfl (by rw [C.2.2.1]; exact hlv.1) (rest := st) rfl (by rw [C.2.1]; exact hd) (by subst hRe; exact hfr.1) (by subst hRe; show 2 * 0 + _ + _ ≤ lo; have := hfr.2; omega)
  have e1 : copied (vp_cell (G.2.2.2 14) (aL h a0, .inr (.inl (aJ h a0)))) (vp_cell (G.2.2.2 14) (aL h a, .inr (.inl (aJ h a)))) sp dp n = vp_cell (G.2.2.2 14) (aL h a, .inr (.inl (va_cpy (aJ h a0) (aJ h a) sp.toNatClampNeg dp.toNatClampNeg n.toNatClampNeg))) := va_copied (fun z => Value.long z) (G.2.2.2 14) (G.2.2.2 14) (aJ h a0) (aJ h a) h4
  rw [e1] at X' step
  have hl : G.1 + a < H.size := (Array.getElem?_eq_some_iff.mp hc1).1
  have hself : (H.setIfInBounds (G.1 + a) (vp_cell (G.2.2.2 14) (aL h a, .inr (.inl (va_cpy (aJ h a0) (aJ h a) sp.toNatClampNeg dp.toNatClampNeg n.toNatClampNeg)))))[G.1 + a]? = some (vp_cell (G.2.2.2 14) (aL h a, .inr (.inl (va_cpy (aJ h a0) (aJ h a) sp.toNatClampNeg dp.toNatClampNeg n.toNatClampNeg)))) := by simp [Array.getElem?_setIfInBounds, hl]
  have oq : ∀ q : Nat, q ≠ G.1 + a → (H.setIfInBounds (G.1 + a) (vp_cell (G.2.2.2 14) (aL h a, .inr (.inl (va_cpy (aJ h a0) (aJ h a) sp.toNatClampNeg dp.toNatClampNeg n.toNatClampNeg)))))[q]? = H[q]? := fun q hq => by simp [Array.getElem?_setIfInBounds, Ne.symm hq]
  obtain ⟨t, a1, b1⟩ := kk (H.setIfInBounds (G.1 + a) (vp_cell (G.2.2.2 14) (aL h a, .inr (.inl (va_cpy (aJ h a0) (aJ h a) sp.toNatClampNeg dp.toNatClampNeg n.toNatClampNeg))))) _ cells slots ls
    (hR.store hk.2 (by omega) (by rw [EE_J (show aK (hRJ h a _) a = 14 from hk.1)]; show (H.setIfInBounds _ _)[G.1 + a]? = _; rw [hself]; show _ = some (vp_cell _ (_, .inr (.inl (va_up (aJ h) a _ a)))); rw [up_s]; rfl) (by simp) hc1 hself (by show (arrV _ _ _).slots.size = (arrV _ _ _).slots.size; rw [arrV_size, arrV_size]) oq rfl rfl rfl (fun b hb => EE_hRJ hb))
    (fun q hq => by
      rcases List.mem_append.mp hq with h | h
      · exact hlo q h
      · obtain ⟨z, -, hz⟩ := List.mem_map.mp h
        rw [← hz]
        exact Nat.le_add_right _ _) hlv _ (by rw [← hT]; rfl) X'
  exact ⟨t, step t a1, b1⟩
end RCP
