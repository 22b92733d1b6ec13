/-! what a call leaves as it was, where the heap may grow; the shape of the class's cells; what stays true between calls -/
def DynP : List (Nat × Nat) := [(53, 0), (59, 0), (63, 0), (67, 0), (71, 0), (89, 0), (80, 0), (31, 0), (2, 12), (2, 1), (26, 1), (74, 2), (74, 8), (58, 0), (58, 1)]
theorem dyn_no {a k : Nat} (h : (4 ≤ a ∧ a ≤ 25) ∨ (32 ≤ a ∧ a ≤ 52) ∨ 92 ≤ a) : (a, k) ∉ DynP := by
  unfold DynP
  simp only [List.mem_cons, List.not_mem_nil, or_false, Prod.mk.injEq, not_or]
  omega
def Gr (wi wj : List Nat) (wq : List (Nat × Nat)) (h h' : AH) : Prop := (∀ p, p ∈ wq → p ∈ DynP) ∧ aN h ≤ aN h' ∧ (∀ a, a < aN h → aK h' a = aK h a ∧ aL h' a = aL h a) ∧ (∀ a, a < aN h → a ∉ wi → aI h' a = aI h a) ∧ (∀ a, a < aN h → a ∉ wj → aJ h' a = aJ h a) ∧ (∀ a k, a < aN h → (a, k) ∉ wq → aP h' a k = aP h a k)
section GRS
variable {wi wj wi' wj' : List Nat} {wq wq' : List (Nat × Nat)} {h h' h2 : AH} {a k : Nat}
theorem Gr.refl (h : AH) : Gr [] [] [] h h := ⟨fun _ q => absurd q (List.not_mem_nil), Nat.le_refl _, fun _ _ => ⟨rfl, rfl⟩, fun _ _ _ => rfl, fun _ _ _ => rfl, fun _ _ _ _ => rfl⟩
theorem Gr.mono (f : Gr wi wj wq h h') (s1 : ∀ a, a ∈ wi → a ∈ wi') (s2 : ∀ a, a ∈ wj → a ∈ wj') (s3 : ∀ a, a ∈ wq → a ∈ wq') (s4 : ∀ p, p ∈ wq' → p ∈ DynP) : Gr wi' wj' wq' h h' :=
  ⟨s4, f.2.1, f.2.2.1, fun a l q => f.2.2.2.1 a l fun p => q (s1 a p), fun a l q => f.2.2.2.2.1 a l fun p => q (s2 a p), fun a k l q => f.2.2.2.2.2 a k l fun p => q (s3 _ p)⟩
theorem Gr.trans (f : Gr wi wj wq h h') (g : Gr wi wj wq h' h2) : Gr wi wj wq h h2 :=
  ⟨f.1, Nat.le_trans f.2.1 g.2.1, fun a l => ⟨(g.2.2.1 a (Nat.lt_of_lt_of_le l f.2.1)).1.trans (f.2.2.1 a l).1, (g.2.2.1 a (Nat.lt_of_lt_of_le l f.2.1)).2.trans (f.2.2.1 a l).2⟩, fun a l q => (g.2.2.2.1 a (Nat.lt_of_lt_of_le l f.2.1) q).trans (f.2.2.2.1 a l q), fun a l q => (g.2.2.2.2.1 a (Nat.lt_of_lt_of_le l f.2.1) q).trans (f.2.2.2.2.1 a l q), fun a k l q => (g.2.2.2.2.2 a k (Nat.lt_of_lt_of_le l f.2.1) q).trans (f.2.2.2.2.2 a k l q)⟩
theorem Fr.gr (f : Fr wi wj [] h h') : Gr wi wj [] h h' :=
  ⟨fun _ q => absurd q (List.not_mem_nil), Nat.le_of_eq f.1.symm, fun a _ => ⟨congrFun f.2.2.1 a, congrFun f.2.2.2.1 a⟩, fun a _ q => f.2.2.2.2.1 a q, fun a _ q => f.2.2.2.2.2.1 a q, fun a k _ _ => congrFun (f.2.2.2.2.2.2 a List.not_mem_nil) k⟩
theorem Fr.gr1 {tw f0 : Nat} (f : Fr wi wj [tw] h h') (hd : (tw, f0) ∈ DynP) (hk : ∀ j, j ≠ f0 → aP h' tw j = aP h tw j) : Gr wi wj [(tw, f0)] h h' :=
  ⟨fun p q => by rw [List.mem_singleton.mp q]; exact hd, Nat.le_of_eq f.1.symm, fun a _ => ⟨congrFun f.2.2.1 a, congrFun f.2.2.2.1 a⟩, fun a _ q => f.2.2.2.2.1 a q, fun a _ q => f.2.2.2.2.2.1 a q, fun a k _ q => by
    by_cases c : a = tw
    · subst c
      refine hk k fun e => q ?_
      rw [e]
      exact List.mem_singleton.mpr rfl
    · exact congrFun (f.2.2.2.2.2.2 a (fun q => c (List.mem_singleton.mp q))) k⟩
theorem Gr.row (f : Gr wi wj wq h h') (ha : a < aN h) (hi : a ∉ wi) : rd h' a = rd h a := by
  funext i
  unfold rd
  rw [f.2.2.2.1 a ha hi]
theorem Gr.jow (f : Gr wi wj wq h h') (ha : a < aN h) (hi : a ∉ wj) : aJ h' a = aJ h a := f.2.2.2.2.1 a ha hi
theorem Gr.ob {k : Nat} (f : Gr wi wj wq h h') (o : ob h a k) : ob h' a k := ⟨(f.2.2.1 a o.2).1.trans o.1, Nat.lt_of_lt_of_le o.2 f.2.1⟩
theorem Gr.len (f : Gr wi wj wq h h') (l : a < aN h) : aL h' a = aL h a := (f.2.2.1 a l).2
theorem Gr.ptr (f : Gr wi wj wq h h') (l : a < aN h) (hd : (a, k) ∉ DynP) : aP h' a k = aP h a k := f.2.2.2.2.2 a k l fun q => hd (f.1 _ q)
theorem Gr.dyn (f : Gr wi wj wq h h') (l : a < aN h) (hd : (a, k) ∉ wq) : aP h' a k = aP h a k := f.2.2.2.2.2 a k l hd
end GRS
def CShO : List (Nat × Nat) := [(0, 10), (1, 12), (2, 2), (3, 13), (26, 3), (27, 13), (29, 13), (30, 13), (31, 5), (56, 13), (57, 13), (58, 16), (62, 8), (66, 8), (70, 8), (74, 6), (75, 14), (77, 13), (79, 13), (80, 0), (81, 13), (82, 13), (83, 14), (84, 13), (85, 13), (86, 14), (87, 13), (88, 14), (53, 7), (54, 13), (55, 14), (59, 7), (60, 13), (61, 14), (63, 7), (64, 13), (65, 14), (67, 7), (68, 13), (69, 14), (71, 7), (72, 13), (73, 14), (89, 7), (90, 13), (91, 14)]
def CShL : List (Nat × Nat) := [(1, 940), (3, 18), (27, 18), (29, 60), (30, 60), (56, 60), (57, 60), (58, 2), (75, 1600), (77, 1024), (79, 3), (81, 3), (82, 120), (83, 120), (84, 384), (85, 600), (86, 360), (87, 4800), (88, 8), (54, 8), (55, 8), (60, 8), (61, 8), (64, 8), (65, 8), (68, 8), (69, 8), (72, 8), (73, 8), (90, 8), (91, 8)]
def CShP : List ((Nat × Nat) × Nat) := [((0, 0), 1), ((0, 3), 2), ((0, 4), 26), ((0, 5), 31), ((0, 6), 58), ((0, 7), 59), ((0, 8), 62), ((0, 9), 66), ((0, 10), 70), ((0, 14), 74), ((2, 0), 3), ((26, 0), 27), ((26, 13), 29), ((26, 14), 30), ((31, 1), 53), ((31, 3), 56), ((31, 4), 57), ((62, 0), 63), ((66, 0), 67), ((70, 0), 71), ((74, 0), 80), ((74, 1), 75), ((74, 6), 89), ((74, 7), 77), ((74, 10), 79), ((80, 1), 81), ((80, 2), 82), ((80, 3), 83), ((80, 4), 84), ((80, 5), 85), ((80, 6), 86), ((80, 7), 87), ((80, 8), 88), ((53, 1), 54), ((53, 2), 55), ((59, 1), 60), ((59, 2), 61), ((63, 1), 64), ((63, 2), 65), ((67, 1), 68), ((67, 2), 69), ((71, 1), 72), ((71, 2), 73), ((89, 1), 90), ((89, 2), 91)]
def CSh (h : AH) : Prop := (∀ p, p ∈ CShO → ob h p.1 p.2) ∧ (∀ p, p ∈ CShL → aL h p.1 = p.2) ∧ (∀ p, p ∈ CShP → aP h p.1.1 p.1.2 = some p.2)
theorem CSh.o0 {h : AH} (S : CSh h) : ob h 0 10 := S.1 (0, 10) (by decide)
theorem CSh.o1 {h : AH} (S : CSh h) : ob h 1 12 := S.1 (1, 12) (by decide)
theorem CSh.o2 {h : AH} (S : CSh h) : ob h 2 2 := S.1 (2, 2) (by decide)
theorem CSh.o3 {h : AH} (S : CSh h) : ob h 3 13 := S.1 (3, 13) (by decide)
theorem CSh.o26 {h : AH} (S : CSh h) : ob h 26 3 := S.1 (26, 3) (by decide)
theorem CSh.o27 {h : AH} (S : CSh h) : ob h 27 13 := S.1 (27, 13) (by decide)
theorem CSh.o29 {h : AH} (S : CSh h) : ob h 29 13 := S.1 (29, 13) (by decide)
theorem CSh.o30 {h : AH} (S : CSh h) : ob h 30 13 := S.1 (30, 13) (by decide)
theorem CSh.o31 {h : AH} (S : CSh h) : ob h 31 5 := S.1 (31, 5) (by decide)
theorem CSh.o56 {h : AH} (S : CSh h) : ob h 56 13 := S.1 (56, 13) (by decide)
theorem CSh.o57 {h : AH} (S : CSh h) : ob h 57 13 := S.1 (57, 13) (by decide)
theorem CSh.o58 {h : AH} (S : CSh h) : ob h 58 16 := S.1 (58, 16) (by decide)
theorem CSh.o62 {h : AH} (S : CSh h) : ob h 62 8 := S.1 (62, 8) (by decide)
theorem CSh.o66 {h : AH} (S : CSh h) : ob h 66 8 := S.1 (66, 8) (by decide)
theorem CSh.o70 {h : AH} (S : CSh h) : ob h 70 8 := S.1 (70, 8) (by decide)
theorem CSh.o74 {h : AH} (S : CSh h) : ob h 74 6 := S.1 (74, 6) (by decide)
theorem CSh.o75 {h : AH} (S : CSh h) : ob h 75 14 := S.1 (75, 14) (by decide)
theorem CSh.o77 {h : AH} (S : CSh h) : ob h 77 13 := S.1 (77, 13) (by decide)
theorem CSh.o79 {h : AH} (S : CSh h) : ob h 79 13 := S.1 (79, 13) (by decide)
theorem CSh.o80 {h : AH} (S : CSh h) : ob h 80 0 := S.1 (80, 0) (by decide)
theorem CSh.o81 {h : AH} (S : CSh h) : ob h 81 13 := S.1 (81, 13) (by decide)
theorem CSh.o82 {h : AH} (S : CSh h) : ob h 82 13 := S.1 (82, 13) (by decide)
theorem CSh.o83 {h : AH} (S : CSh h) : ob h 83 14 := S.1 (83, 14) (by decide)
theorem CSh.o84 {h : AH} (S : CSh h) : ob h 84 13 := S.1 (84, 13) (by decide)
theorem CSh.o85 {h : AH} (S : CSh h) : ob h 85 13 := S.1 (85, 13) (by decide)
theorem CSh.o86 {h : AH} (S : CSh h) : ob h 86 14 := S.1 (86, 14) (by decide)
theorem CSh.o87 {h : AH} (S : CSh h) : ob h 87 13 := S.1 (87, 13) (by decide)
theorem CSh.o88 {h : AH} (S : CSh h) : ob h 88 14 := S.1 (88, 14) (by decide)
theorem CSh.o53 {h : AH} (S : CSh h) : ob h 53 7 := S.1 (53, 7) (by decide)
theorem CSh.o54 {h : AH} (S : CSh h) : ob h 54 13 := S.1 (54, 13) (by decide)
theorem CSh.o55 {h : AH} (S : CSh h) : ob h 55 14 := S.1 (55, 14) (by decide)
theorem CSh.o59 {h : AH} (S : CSh h) : ob h 59 7 := S.1 (59, 7) (by decide)
theorem CSh.o60 {h : AH} (S : CSh h) : ob h 60 13 := S.1 (60, 13) (by decide)
theorem CSh.o61 {h : AH} (S : CSh h) : ob h 61 14 := S.1 (61, 14) (by decide)
theorem CSh.o63 {h : AH} (S : CSh h) : ob h 63 7 := S.1 (63, 7) (by decide)
theorem CSh.o64 {h : AH} (S : CSh h) : ob h 64 13 := S.1 (64, 13) (by decide)
theorem CSh.o65 {h : AH} (S : CSh h) : ob h 65 14 := S.1 (65, 14) (by decide)
theorem CSh.o67 {h : AH} (S : CSh h) : ob h 67 7 := S.1 (67, 7) (by decide)
theorem CSh.o68 {h : AH} (S : CSh h) : ob h 68 13 := S.1 (68, 13) (by decide)
theorem CSh.o69 {h : AH} (S : CSh h) : ob h 69 14 := S.1 (69, 14) (by decide)
theorem CSh.o71 {h : AH} (S : CSh h) : ob h 71 7 := S.1 (71, 7) (by decide)
theorem CSh.o72 {h : AH} (S : CSh h) : ob h 72 13 := S.1 (72, 13) (by decide)
theorem CSh.o73 {h : AH} (S : CSh h) : ob h 73 14 := S.1 (73, 14) (by decide)
theorem CSh.o89 {h : AH} (S : CSh h) : ob h 89 7 := S.1 (89, 7) (by decide)
theorem CSh.o90 {h : AH} (S : CSh h) : ob h 90 13 := S.1 (90, 13) (by decide)
theorem CSh.o91 {h : AH} (S : CSh h) : ob h 91 14 := S.1 (91, 14) (by decide)
theorem CSh.l1 {h : AH} (S : CSh h) : aL h 1 = 940 := S.2.1 (1, 940) (by decide)
theorem CSh.l3 {h : AH} (S : CSh h) : aL h 3 = 18 := S.2.1 (3, 18) (by decide)
theorem CSh.l27 {h : AH} (S : CSh h) : aL h 27 = 18 := S.2.1 (27, 18) (by decide)
theorem CSh.l29 {h : AH} (S : CSh h) : aL h 29 = 60 := S.2.1 (29, 60) (by decide)
theorem CSh.l30 {h : AH} (S : CSh h) : aL h 30 = 60 := S.2.1 (30, 60) (by decide)
theorem CSh.l56 {h : AH} (S : CSh h) : aL h 56 = 60 := S.2.1 (56, 60) (by decide)
theorem CSh.l57 {h : AH} (S : CSh h) : aL h 57 = 60 := S.2.1 (57, 60) (by decide)
theorem CSh.l58 {h : AH} (S : CSh h) : aL h 58 = 2 := S.2.1 (58, 2) (by decide)
theorem CSh.l75 {h : AH} (S : CSh h) : aL h 75 = 1600 := S.2.1 (75, 1600) (by decide)
theorem CSh.l77 {h : AH} (S : CSh h) : aL h 77 = 1024 := S.2.1 (77, 1024) (by decide)
theorem CSh.l79 {h : AH} (S : CSh h) : aL h 79 = 3 := S.2.1 (79, 3) (by decide)
theorem CSh.l81 {h : AH} (S : CSh h) : aL h 81 = 3 := S.2.1 (81, 3) (by decide)
theorem CSh.l82 {h : AH} (S : CSh h) : aL h 82 = 120 := S.2.1 (82, 120) (by decide)
theorem CSh.l83 {h : AH} (S : CSh h) : aL h 83 = 120 := S.2.1 (83, 120) (by decide)
theorem CSh.l84 {h : AH} (S : CSh h) : aL h 84 = 384 := S.2.1 (84, 384) (by decide)
theorem CSh.l85 {h : AH} (S : CSh h) : aL h 85 = 600 := S.2.1 (85, 600) (by decide)
theorem CSh.l86 {h : AH} (S : CSh h) : aL h 86 = 360 := S.2.1 (86, 360) (by decide)
theorem CSh.l87 {h : AH} (S : CSh h) : aL h 87 = 4800 := S.2.1 (87, 4800) (by decide)
theorem CSh.l88 {h : AH} (S : CSh h) : aL h 88 = 8 := S.2.1 (88, 8) (by decide)
theorem CSh.l54 {h : AH} (S : CSh h) : aL h 54 = 8 := S.2.1 (54, 8) (by decide)
theorem CSh.l55 {h : AH} (S : CSh h) : aL h 55 = 8 := S.2.1 (55, 8) (by decide)
theorem CSh.l60 {h : AH} (S : CSh h) : aL h 60 = 8 := S.2.1 (60, 8) (by decide)
theorem CSh.l61 {h : AH} (S : CSh h) : aL h 61 = 8 := S.2.1 (61, 8) (by decide)
theorem CSh.l64 {h : AH} (S : CSh h) : aL h 64 = 8 := S.2.1 (64, 8) (by decide)
theorem CSh.l65 {h : AH} (S : CSh h) : aL h 65 = 8 := S.2.1 (65, 8) (by decide)
theorem CSh.l68 {h : AH} (S : CSh h) : aL h 68 = 8 := S.2.1 (68, 8) (by decide)
theorem CSh.l69 {h : AH} (S : CSh h) : aL h 69 = 8 := S.2.1 (69, 8) (by decide)
theorem CSh.l72 {h : AH} (S : CSh h) : aL h 72 = 8 := S.2.1 (72, 8) (by decide)
theorem CSh.l73 {h : AH} (S : CSh h) : aL h 73 = 8 := S.2.1 (73, 8) (by decide)
theorem CSh.l90 {h : AH} (S : CSh h) : aL h 90 = 8 := S.2.1 (90, 8) (by decide)
theorem CSh.l91 {h : AH} (S : CSh h) : aL h 91 = 8 := S.2.1 (91, 8) (by decide)
theorem CSh.p0_0 {h : AH} (S : CSh h) : aP h 0 0 = some 1 := S.2.2 ((0, 0), 1) (by decide)
theorem CSh.p0_3 {h : AH} (S : CSh h) : aP h 0 3 = some 2 := S.2.2 ((0, 3), 2) (by decide)
theorem CSh.p0_4 {h : AH} (S : CSh h) : aP h 0 4 = some 26 := S.2.2 ((0, 4), 26) (by decide)
theorem CSh.p0_5 {h : AH} (S : CSh h) : aP h 0 5 = some 31 := S.2.2 ((0, 5), 31) (by decide)
theorem CSh.p0_6 {h : AH} (S : CSh h) : aP h 0 6 = some 58 := S.2.2 ((0, 6), 58) (by decide)
theorem CSh.p0_7 {h : AH} (S : CSh h) : aP h 0 7 = some 59 := S.2.2 ((0, 7), 59) (by decide)
theorem CSh.p0_8 {h : AH} (S : CSh h) : aP h 0 8 = some 62 := S.2.2 ((0, 8), 62) (by decide)
theorem CSh.p0_9 {h : AH} (S : CSh h) : aP h 0 9 = some 66 := S.2.2 ((0, 9), 66) (by decide)
theorem CSh.p0_10 {h : AH} (S : CSh h) : aP h 0 10 = some 70 := S.2.2 ((0, 10), 70) (by decide)
theorem CSh.p0_14 {h : AH} (S : CSh h) : aP h 0 14 = some 74 := S.2.2 ((0, 14), 74) (by decide)
theorem CSh.p2_0 {h : AH} (S : CSh h) : aP h 2 0 = some 3 := S.2.2 ((2, 0), 3) (by decide)
theorem CSh.p26_0 {h : AH} (S : CSh h) : aP h 26 0 = some 27 := S.2.2 ((26, 0), 27) (by decide)
theorem CSh.p26_13 {h : AH} (S : CSh h) : aP h 26 13 = some 29 := S.2.2 ((26, 13), 29) (by decide)
theorem CSh.p26_14 {h : AH} (S : CSh h) : aP h 26 14 = some 30 := S.2.2 ((26, 14), 30) (by decide)
theorem CSh.p31_1 {h : AH} (S : CSh h) : aP h 31 1 = some 53 := S.2.2 ((31, 1), 53) (by decide)
theorem CSh.p31_3 {h : AH} (S : CSh h) : aP h 31 3 = some 56 := S.2.2 ((31, 3), 56) (by decide)
theorem CSh.p31_4 {h : AH} (S : CSh h) : aP h 31 4 = some 57 := S.2.2 ((31, 4), 57) (by decide)
theorem CSh.p62_0 {h : AH} (S : CSh h) : aP h 62 0 = some 63 := S.2.2 ((62, 0), 63) (by decide)
theorem CSh.p66_0 {h : AH} (S : CSh h) : aP h 66 0 = some 67 := S.2.2 ((66, 0), 67) (by decide)
theorem CSh.p70_0 {h : AH} (S : CSh h) : aP h 70 0 = some 71 := S.2.2 ((70, 0), 71) (by decide)
theorem CSh.p74_0 {h : AH} (S : CSh h) : aP h 74 0 = some 80 := S.2.2 ((74, 0), 80) (by decide)
theorem CSh.p74_1 {h : AH} (S : CSh h) : aP h 74 1 = some 75 := S.2.2 ((74, 1), 75) (by decide)
theorem CSh.p74_6 {h : AH} (S : CSh h) : aP h 74 6 = some 89 := S.2.2 ((74, 6), 89) (by decide)
theorem CSh.p74_7 {h : AH} (S : CSh h) : aP h 74 7 = some 77 := S.2.2 ((74, 7), 77) (by decide)
theorem CSh.p74_10 {h : AH} (S : CSh h) : aP h 74 10 = some 79 := S.2.2 ((74, 10), 79) (by decide)
theorem CSh.p80_1 {h : AH} (S : CSh h) : aP h 80 1 = some 81 := S.2.2 ((80, 1), 81) (by decide)
theorem CSh.p80_2 {h : AH} (S : CSh h) : aP h 80 2 = some 82 := S.2.2 ((80, 2), 82) (by decide)
theorem CSh.p80_3 {h : AH} (S : CSh h) : aP h 80 3 = some 83 := S.2.2 ((80, 3), 83) (by decide)
theorem CSh.p80_4 {h : AH} (S : CSh h) : aP h 80 4 = some 84 := S.2.2 ((80, 4), 84) (by decide)
theorem CSh.p80_5 {h : AH} (S : CSh h) : aP h 80 5 = some 85 := S.2.2 ((80, 5), 85) (by decide)
theorem CSh.p80_6 {h : AH} (S : CSh h) : aP h 80 6 = some 86 := S.2.2 ((80, 6), 86) (by decide)
theorem CSh.p80_7 {h : AH} (S : CSh h) : aP h 80 7 = some 87 := S.2.2 ((80, 7), 87) (by decide)
theorem CSh.p80_8 {h : AH} (S : CSh h) : aP h 80 8 = some 88 := S.2.2 ((80, 8), 88) (by decide)
theorem CSh.p53_1 {h : AH} (S : CSh h) : aP h 53 1 = some 54 := S.2.2 ((53, 1), 54) (by decide)
theorem CSh.p53_2 {h : AH} (S : CSh h) : aP h 53 2 = some 55 := S.2.2 ((53, 2), 55) (by decide)
theorem CSh.p59_1 {h : AH} (S : CSh h) : aP h 59 1 = some 60 := S.2.2 ((59, 1), 60) (by decide)
theorem CSh.p59_2 {h : AH} (S : CSh h) : aP h 59 2 = some 61 := S.2.2 ((59, 2), 61) (by decide)
theorem CSh.p63_1 {h : AH} (S : CSh h) : aP h 63 1 = some 64 := S.2.2 ((63, 1), 64) (by decide)
theorem CSh.p63_2 {h : AH} (S : CSh h) : aP h 63 2 = some 65 := S.2.2 ((63, 2), 65) (by decide)
theorem CSh.p67_1 {h : AH} (S : CSh h) : aP h 67 1 = some 68 := S.2.2 ((67, 1), 68) (by decide)
theorem CSh.p67_2 {h : AH} (S : CSh h) : aP h 67 2 = some 69 := S.2.2 ((67, 2), 69) (by decide)
theorem CSh.p71_1 {h : AH} (S : CSh h) : aP h 71 1 = some 72 := S.2.2 ((71, 1), 72) (by decide)
theorem CSh.p71_2 {h : AH} (S : CSh h) : aP h 71 2 = some 73 := S.2.2 ((71, 2), 73) (by decide)
theorem CSh.p89_1 {h : AH} (S : CSh h) : aP h 89 1 = some 90 := S.2.2 ((89, 1), 90) (by decide)
theorem CSh.p89_2 {h : AH} (S : CSh h) : aP h 89 2 = some 91 := S.2.2 ((89, 2), 91) (by decide)
theorem CSh.t53 {h : AH} (S : CSh h) : TB h 53 := ⟨CSh.o53 S, CSh.p53_1 S, CSh.o54 S, CSh.l54 S, CSh.p53_2 S, CSh.o55 S, CSh.l55 S⟩
theorem CSh.t59 {h : AH} (S : CSh h) : TB h 59 := ⟨CSh.o59 S, CSh.p59_1 S, CSh.o60 S, CSh.l60 S, CSh.p59_2 S, CSh.o61 S, CSh.l61 S⟩
theorem CSh.t63 {h : AH} (S : CSh h) : TB h 63 := ⟨CSh.o63 S, CSh.p63_1 S, CSh.o64 S, CSh.l64 S, CSh.p63_2 S, CSh.o65 S, CSh.l65 S⟩
theorem CSh.t67 {h : AH} (S : CSh h) : TB h 67 := ⟨CSh.o67 S, CSh.p67_1 S, CSh.o68 S, CSh.l68 S, CSh.p67_2 S, CSh.o69 S, CSh.l69 S⟩
theorem CSh.t71 {h : AH} (S : CSh h) : TB h 71 := ⟨CSh.o71 S, CSh.p71_1 S, CSh.o72 S, CSh.l72 S, CSh.p71_2 S, CSh.o73 S, CSh.l73 S⟩
theorem CSh.t89 {h : AH} (S : CSh h) : TB h 89 := ⟨CSh.o89 S, CSh.p89_1 S, CSh.o90 S, CSh.l90 S, CSh.p89_2 S, CSh.o91 S, CSh.l91 S⟩
theorem CSh.gr {wi wj : List Nat} {wq : List (Nat × Nat)} {h h' : AH} (S : CSh h) (f : Gr wi wj wq h h') : CSh h' := by
  have e1 : ∀ p, p ∈ CShL → p.1 ∈ CShO.map Prod.fst := by decide
  have e2 : ∀ p, p ∈ CShP → p.1.1 ∈ CShO.map Prod.fst := by decide
  have e3 : ∀ p, p ∈ CShP → p.1 ∉ DynP := by decide
  have lt : ∀ a, a ∈ CShO.map Prod.fst → a < aN h := by
    intro a ha
    obtain ⟨p, hp, e⟩ := List.mem_map.mp ha
    rw [← e]
    exact (S.1 p hp).2
  exact ⟨fun p hp => f.ob (S.1 p hp), fun p hp => (f.len (lt _ (e1 p hp))).trans (S.2.1 p hp), fun p hp => (f.ptr (lt _ (e2 p hp)) (e3 p hp)).trans (S.2.2 p hp)⟩
theorem MSh.gr {wi wj : List Nat} {wq : List (Nat × Nat)} {h h' : AH} (H : MSh h) (f : Gr wi wj wq h h') : MSh h' :=
  ⟨f.ob H.o0, (f.ptr (H.o0).2 (dyn_no (by omega))).trans H.p1, f.ob H.o1, (f.len (H.o1).2).trans H.l1, (f.ptr (H.o0).2 (dyn_no (by omega))).trans H.p6, f.ob H.o2, (f.len (H.o2).2).trans H.l2, (f.ptr (H.o0).2 (dyn_no (by omega))).trans H.p7, f.ob H.o3, (f.len (H.o3).2).trans H.l3, (f.ptr (H.o0).2 (dyn_no (by omega))).trans H.p8, f.ob H.o4, (f.len (H.o4).2).trans H.l4, (f.ptr (H.o0).2 (dyn_no (by omega))).trans H.p9, f.ob H.o5, (f.len (H.o5).2).trans H.l5, (f.ptr (H.o0).2 (dyn_no (by omega))).trans H.p10, f.ob H.o6, (f.len (H.o6).2).trans H.l6, (f.ptr (H.o0).2 (dyn_no (by omega))).trans H.p24, f.ob H.o7, (f.len (H.o7).2).trans H.l7, (f.ptr (H.o0).2 (dyn_no (by omega))).trans H.p25, f.ob H.o8, (f.len (H.o8).2).trans H.l8, (f.ptr (H.o0).2 (dyn_no (by omega))).trans H.p26, f.ob H.o9, (f.len (H.o9).2).trans H.l9, (f.ptr (H.o0).2 (dyn_no (by omega))).trans H.p32, f.ob H.o10, (f.len (H.o10).2).trans H.l10, (f.ptr (H.o0).2 (dyn_no (by omega))).trans H.p33, f.ob H.o11, (f.len (H.o11).2).trans H.l11, (f.ptr (H.o0).2 (dyn_no (by omega))).trans H.p35, f.ob H.o12, (f.len (H.o12).2).trans H.l12, (f.ptr (H.o0).2 (dyn_no (by omega))).trans H.p36, f.ob H.o13, (f.len (H.o13).2).trans H.l13, (f.ptr (H.o0).2 (dyn_no (by omega))).trans H.p37, f.ob H.o14, (f.len (H.o14).2).trans H.l14, (f.ptr (H.o0).2 (dyn_no (by omega))).trans H.p38, f.ob H.o15, (f.len (H.o15).2).trans H.l15, (f.ptr (H.o0).2 (dyn_no (by omega))).trans H.p39, f.ob H.o16, (f.len (H.o16).2).trans H.l16, (f.ptr (H.o0).2 (dyn_no (by omega))).trans H.p42, f.ob H.o17, (f.len (H.o17).2).trans H.l17, (f.ptr (H.o0).2 (dyn_no (by omega))).trans H.p43, f.ob H.o18, (f.len (H.o18).2).trans H.l18, (f.ptr (H.o0).2 (dyn_no (by omega))).trans H.p44, f.ob H.o19, (f.len (H.o19).2).trans H.l19, (f.ptr (H.o0).2 (dyn_no (by omega))).trans H.p45, f.ob H.o20, (f.len (H.o20).2).trans H.l20, (f.ptr (H.o0).2 (dyn_no (by omega))).trans H.p46, f.ob H.o21, (f.len (H.o21).2).trans H.l21, (f.ptr (H.o0).2 (dyn_no (by omega))).trans H.p47, f.ob H.o22, (f.len (H.o22).2).trans H.l22, (f.ptr (H.o0).2 (dyn_no (by omega))).trans H.p50, f.ob H.o23, (f.len (H.o23).2).trans H.l23, (f.ptr (H.o0).2 (dyn_no (by omega))).trans H.p51, f.ob H.o24, (f.len (H.o24).2).trans H.l24, (f.ptr (H.o0).2 (dyn_no (by omega))).trans H.p52, f.ob H.o25, (f.len (H.o25).2).trans H.l25⟩
theorem LB.gr {wi wj : List Nat} {wq : List (Nat × Nat)} {h h' : AH} {la : Nat} (H : LB h la) (f : Gr wi wj wq h h') (hd : la = 5 ∨ la = 32 ∨ 119 ≤ la) : LB h' la :=
  ⟨f.ob H.o0, (f.ptr (H.o0).2 (dyn_no (by omega))).trans H.p2, f.ob H.o1, (f.len (H.o1).2).trans H.l1, (f.ptr (H.o0).2 (dyn_no (by omega))).trans H.p3, f.ob H.o2, (f.len (H.o2).2).trans H.l2, (f.ptr (H.o0).2 (dyn_no (by omega))).trans H.p4, f.ob H.o3, (f.len (H.o3).2).trans H.l3, (f.ptr (H.o0).2 (dyn_no (by omega))).trans H.p6, f.ob H.o4, (f.len (H.o4).2).trans H.l4, (f.ptr (H.o0).2 (dyn_no (by omega))).trans H.p7, f.ob H.o5, (f.len (H.o5).2).trans H.l5, (f.ptr (H.o0).2 (dyn_no (by omega))).trans H.p8, f.ob H.o6, (f.len (H.o6).2).trans H.l6, (f.ptr (H.o0).2 (dyn_no (by omega))).trans H.p9, f.ob H.o7, (f.len (H.o7).2).trans H.l7, (f.ptr (H.o0).2 (dyn_no (by omega))).trans H.p10, f.ob H.o8, (f.len (H.o8).2).trans H.l8, (f.ptr (H.o0).2 (dyn_no (by omega))).trans H.p12, f.ob H.o9, (f.len (H.o9).2).trans H.l9, (f.ptr (H.o0).2 (dyn_no (by omega))).trans H.p14, f.ob H.o10, (f.ptr (H.o0).2 (dyn_no (by omega))).trans H.p15, f.ob H.o16, (f.ptr (H.o10).2 (dyn_no (by omega))).trans H.q10_1, f.ob H.o11, (f.len (H.o11).2).trans H.l11, (f.ptr (H.o10).2 (dyn_no (by omega))).trans H.q10_2, f.ob H.o12, (f.len (H.o12).2).trans H.l12, (f.ptr (H.o10).2 (dyn_no (by omega))).trans H.q10_3, f.ob H.o13, (f.len (H.o13).2).trans H.l13, (f.ptr (H.o10).2 (dyn_no (by omega))).trans H.q10_4, f.ob H.o14, (f.len (H.o14).2).trans H.l14, (f.ptr (H.o10).2 (dyn_no (by omega))).trans H.q10_5, f.ob H.o15, (f.len (H.o15).2).trans H.l15, (f.ptr (H.o16).2 (dyn_no (by omega))).trans H.q16_1, f.ob H.o17, (f.len (H.o17).2).trans H.l17, (f.ptr (H.o16).2 (dyn_no (by omega))).trans H.q16_2, f.ob H.o18, (f.len (H.o18).2).trans H.l18, (f.ptr (H.o16).2 (dyn_no (by omega))).trans H.q16_3, f.ob H.o19, (f.len (H.o19).2).trans H.l19, (f.ptr (H.o16).2 (dyn_no (by omega))).trans H.q16_4, f.ob H.o20, (f.len (H.o20).2).trans H.l20⟩
theorem LR.grw {wi wj : List Nat} {wq : List (Nat × Nat)} {h h' : AH} {la : Nat} {s : Int → Int} (L : LR h la s) (H : LB h la) (f : Gr wi wj wq h h') (hi : ∀ j, j ≤ 20 → la + j ∉ wi) (hj : ∀ j, j ≤ 20 → la + j ∉ wj) : LR h' la s := by
  have l20 : la + 20 < aN h := (H.o20).2
  have rr : ∀ j, j ≤ 20 → rd h' (la + j) = rd h (la + j) := fun j h20 => f.row (by omega) (hi j h20)
  have jj : ∀ j, j ≤ 20 → aJ h' (la + j) = aJ h (la + j) := fun j h20 => f.jow (by omega) (hj j h20)
  have r0 : rd h' la = rd h la := rr 0 (by omega)
  have j0 : aJ h' la = aJ h la := jj 0 (by omega)
  unfold LR at L ⊢
  rw [r0, rr 1 (by omega), rr 3 (by omega), rr 5 (by omega), rr 6 (by omega), rr 7 (by omega), rr 9 (by omega), rr 10 (by omega), rr 11 (by omega), rr 12 (by omega), rr 13 (by omega), rr 14 (by omega), rr 15 (by omega), rr 16 (by omega), rr 17 (by omega), rr 18 (by omega), rr 19 (by omega), rr 20 (by omega), j0, jj 2 (by omega)]
  exact L
theorem TB.gr {wi wj : List Nat} {wq : List (Nat × Nat)} {h h' : AH} {tw : Nat} (B : TB h tw) (f : Gr wi wj wq h h') (hd : ∀ k, k ≠ 0 → (tw, k) ∉ DynP) : TB h' tw :=
  ⟨f.ob B.o0, (f.ptr B.o0.2 (hd 1 (by omega))).trans B.p1, f.ob B.o1, (f.len B.o1.2).trans B.l1, (f.ptr B.o0.2 (hd 2 (by omega))).trans B.p2, f.ob B.o2, (f.len B.o2.2).trans B.l2⟩
/-- town and sizes, 0 beyond their rows -/
def tS (s : Int → Int) : Int → Int := fun i => if 0 ≤ i ∧ i < 24 then s (225 + i) else 0
def zC (s : Int → Int) : Int → Int := fun i => if 0 ≤ i ∧ i < 24 then s (99 + i) else 0
theorem tS_i {s : Int → Int} {i : Int} (h1 : 0 ≤ i) (h2 : i < 24) : tS s i = s (225 + i) := if_pos ⟨h1, h2⟩
theorem zC_i {s : Int → Int} {i : Int} (h1 : 0 ≤ i) (h2 : i < 24) : zC s i = s (99 + i) := if_pos ⟨h1, h2⟩
theorem EZ.c (s : Int → Int) : EZ (zC s) s := fun i h1 h2 => zC_i h1 h2
def Z24 (h : AH) : Prop := (∀ i, 24 ≤ i → rd h 99 i = 0) ∧ ∀ i, 24 ≤ i → rd h 100 i = 0
theorem rd_neg {h : AH} {a : Nat} {i : Int} (hi : i < 0) : rd h a i = 0 := if_neg (by omega)
/-- names: letters, the last one first -/
def w5 : List Int → Int
  | [] => 0
  | c :: l => 32 * w5 l + (c - 96)
def w8 : List Int → Int
  | [] => 0
  | c :: l => 256 * w8 l + c
def Ltr (l : List Int) : Prop := ∀ c, c ∈ l → 97 ≤ c ∧ c ≤ 122
def NmR (c : Int) (m : Int64) : Prop := ∃ l : List Int, l.length ≤ 6 ∧ Ltr l ∧ c = w5 l ∧ m = Int64.ofInt (w8 l)
def NR (h : AH) (la : Nat) (s : Int → Int) (nm : Nat → Int64) : Prop := ∀ r, 0 ≤ r → r < s 2 → NmR (rd h (la + 4) r) (nm r.toNat)
def PL (h : AH) (sc : Nat) (s : Int → Int) : Prop := rd h sc 2 = s 249 ∧ ∀ i, 0 ≤ i → i < s 249 → rd h (sc + 25) i = s (250 + 2 * i) ∧ rd h (sc + 26) i = s (250 + 2 * i + 1)
/-- a scene's cells -/
def SK (h : AH) (sc la : Nat) : Prop := ob h sc 5 ∧ aP h sc 0 = some la ∧ aP h sc 1 = some (sc + 22) ∧ TB h (sc + 22) ∧ aP h sc 3 = some (sc + 25) ∧ ob h (sc + 25) 13 ∧ aL h (sc + 25) = 60 ∧ aP h sc 4 = some (sc + 26) ∧ ob h (sc + 26) 13 ∧ aL h (sc + 26) = 60
def Scn (h : AH) (sc la : Nat) (s : Int → Int) (nm : Nat → Int64) : Prop := SK h sc la ∧ LB h la ∧ LR h la s ∧ NR h la s nm ∧ TR h (sc + 22) la s (tS s) (zC s) ∧ PL h sc s
def SqOk (s : Int → Int) : Prop := s 6 + s 8 ≤ 8 ∧ s 7 + s 9 ≤ 8
def PlOk (s : Int → Int) : Prop := s 249 ≤ 60 ∧ ∀ i, 0 ≤ i → i < s 249 → s (250 + 2 * i) ≤ 5 ∧ (s (250 + 2 * i) ≤ 4 → s (250 + 2 * i + 1) < s 2) ∧ (s (250 + 2 * i) = 5 → 1 ≤ s (250 + 2 * i + 1) ∧ s (250 + 2 * i + 1) ≤ 96)
/-- no two ropes tie the same two RAFTS -/
def RUq (s : Int → Int) : Prop := ∀ k l, 0 ≤ k → k < l → l < s 4 → ¬ ((s (135 + 4 * k) = s (135 + 4 * l) ∧ s (135 + 4 * k + 1) = s (135 + 4 * l + 1)) ∨ (s (135 + 4 * k) = s (135 + 4 * l + 1) ∧ s (135 + 4 * k + 1) = s (135 + 4 * l)))
def Fit (s : Int → Int) : Prop := ∃ t, VT s t (zC s) ∧ (∀ k, 0 ≤ k → k < s 4 → gapT t (zC s) (s (135 + 4 * k)) (s (135 + 4 * k + 1)) ≤ s (135 + 4 * k + 2)) ∧ RUq s ∧ ∀ k, 0 ≤ k → k < s 4 → s (135 + 4 * k + 2) ≤ 9
/-- all that is so of a state -/
def GA (s : Int → Int) : Prop := GS s ∧ WLi s ∧ SqOk s ∧ PlOk s ∧ Fit s ∧ VT s (tS s) (zC s)
theorem TR.gr {wi wj : List Nat} {wq : List (Nat × Nat)} {h h' : AH} {tw la : Nat} {s t z : Int → Int} (R : TR h tw la s t z) (f : Gr wi wj wq h h') (hd : ∀ k, k ≠ 0 → (tw, k) ∉ DynP) (h0 : (tw, 0) ∉ wq) (hi : tw + 1 ∉ wi) (hj : tw + 2 ∉ wj) : TR h' tw la s t z := by
  obtain ⟨B, p, q1, q2⟩ := R
  refine ⟨B.gr f hd, (f.dyn B.o0.2 h0).trans p, fun r r1 r2 => ?_, fun r r1 r2 x y => ?_⟩
  · rw [f.row B.o1.2 hi]; exact q1 r r1 r2
  · rw [f.jow B.o2.2 hj]; exact q2 r r1 r2 x y
theorem Scn.gr {wi wj : List Nat} {wq : List (Nat × Nat)} {h h' : AH} {sc la : Nat} {s : Int → Int} {nm : Nat → Int64} (S : Scn h sc la s nm) (f : Gr wi wj wq h h') (hl : la = 5 ∨ la = 32 ∨ 119 ≤ la) (hs : sc = 31 ∨ 119 ≤ sc)
    (h0 : (sc, 0) ∉ wq) (h1 : (sc + 22, 0) ∉ wq) (hi : ∀ j, j ≤ 20 → la + j ∉ wi) (hj : ∀ j, j ≤ 20 → la + j ∉ wj) (i0 : sc ∉ wi) (i23 : sc + 23 ∉ wi) (j24 : sc + 24 ∉ wj) (i25 : sc + 25 ∉ wi) (i26 : sc + 26 ∉ wi) : Scn h' sc la s nm := by
  obtain ⟨⟨o0, p0, p1, tb, p3, o25, l25, p4, o26, l26⟩, H, L, N, T, P1, P2⟩ := S
  have d1 : ∀ k, k ≠ 0 → (sc + 22, k) ∉ DynP := by
    intro k hk
    unfold DynP
    simp only [List.mem_cons, List.not_mem_nil, or_false, Prod.mk.injEq, not_or]
    omega
  have d2 : ∀ k, k ≠ 0 → (sc, k) ∉ DynP := by
    intro k hk
    unfold DynP
    simp only [List.mem_cons, List.not_mem_nil, or_false, Prod.mk.injEq, not_or]
    omega
  refine ⟨⟨f.ob o0, (f.dyn o0.2 h0).trans p0, (f.ptr o0.2 (d2 1 (by omega))).trans p1, tb.gr f d1, (f.ptr o0.2 (d2 3 (by omega))).trans p3, f.ob o25, (f.len o25.2).trans l25, (f.ptr o0.2 (d2 4 (by omega))).trans p4, f.ob o26, (f.len o26.2).trans l26⟩, H.gr f hl, L.grw H f hi hj, fun r r1 r2 => ?_, T.gr f d1 h1 i23 j24, ?_, fun i i1 i2 => ?_⟩
  · rw [f.row (H.o4).2 (hi 4 (by omega))]; exact N r r1 r2
  · rw [f.row o0.2 i0]; exact P1
  · rw [f.row o25.2 i25, f.row o26.2 i26]; exact P2 i i1 i2
/-! the parts of what stays true -/
def IvT (h : AH) : Prop := rd h 0 1 = rd h 92 2 ∧ (0 ≤ rd h 92 2 ∧ rd h 92 2 ≤ 940) ∧ rd h 1 = rd h 93 ∧ TByt h 93
def IvF (h : AH) : Prop := rd h 0 2 = rd h 92 15
def SpB (t : Int → Int) (r : Int) : Prop := (0 ≤ t (3 * r) ∧ t (3 * r) < 8) ∧ (0 ≤ t (3 * r + 1) ∧ t (3 * r + 1) < 8) ∧ (0 ≤ t (3 * r + 2) ∧ t (3 * r + 2) ≤ 1)
def IvJ (h : AH) : Prop := (rd h 0 11 = 0 ∧ rd h 92 34 = -1) ∨ (rd h 0 11 = 1 ∧ (0 ≤ rd h 92 34 ∧ rd h 92 34 ≤ 8) ∧ rd h 0 12 = rd h 92 34 ∧ rd h 62 3 = rd h 102 0 ∧ rd h 62 2 = rd h 102 1 ∧ rd h 62 4 = rd h 102 2 ∧ rd h 62 5 = rd h 102 3 ∧ rd h 0 13 = rd h 102 4 ∧ ∀ r, 0 ≤ r → r < rd h 92 34 → rd h 64 r = enc (rd h 103) r ∧ SpB (rd h 103) r)
def IvQ (h : AH) (qa ac : Nat) : Prop := aP h 74 2 = some qa ∧ ob h qa 14 ∧ (256 ≤ aL h qa ∧ aL h qa ≤ 128000) ∧ aP h 74 8 = some ac ∧ ob h ac 13 ∧ (64 ≤ aL h ac ∧ aL h ac ≤ 128000) ∧ rd h 74 9 = rd h 92 40 ∧ (0 ≤ rd h 92 40 ∧ rd h 92 40 ≤ aL h ac ∧ rd h 92 40 ≤ 125000) ∧ (∀ i, 0 ≤ i → i < rd h 92 40 → rd h ac i = rd h 108 i) ∧ (qa = 76 ∨ 119 ≤ qa) ∧ (ac = 78 ∨ 119 ≤ ac)
def IvA (h : AH) : Prop := (rd h 92 48 = -1 ∧ rd h 74 13 = 0 ∧ rd h 74 14 = -1) ∨ ((0 ≤ rd h 92 48 ∧ rd h 92 48 ≤ 3) ∧ rd h 74 13 = rd h 92 48 ∧ rd h 74 14 = rd h 92 49 ∧ ∀ r, 0 ≤ r → r < rd h 92 48 → rd h 79 r = enc (rd h 114) r ∧ SpB (rd h 114) r)
def kS (h : AH) (k : Nat) : Int → Int := fun i => rd h 115 (370 * k + i)
def kN (h : AH) (k : Nat) : Nat → Int64 := fun j => aJ h 116 (8 * k + j)
def IvK1 (h : AH) (qa ac k : Nat) : Prop := (aP h 58 k = none ∧ rd h 117 k = 0) ∨ ∃ sc, aP h 58 k = some sc ∧ rd h 117 k = 1 ∧ 119 ≤ sc ∧ Scn h sc (sc + 1) (kS h k) (kN h k) ∧ GA (kS h k) ∧ (qa < sc ∨ sc + 26 < qa) ∧ (ac < sc ∨ sc + 26 < ac)
def IvK (h : AH) (qa ac : Nat) : Prop := IvK1 h qa ac 0 ∧ IvK1 h qa ac 1 ∧ ∀ sc sc', aP h 58 0 = some sc → aP h 58 1 = some sc' → sc + 26 < sc' ∨ sc' + 26 < sc
/-- the words that are no names, in the class's order, the last letter first -/
def kwL : List (List Int) := [[119, 111, 114], [101, 100, 105, 116], [116, 102, 97, 114], [101, 108, 111, 112], [101, 112, 111, 114], [114, 111, 111, 109], [101, 100, 105, 115, 101, 98], [116, 114, 97, 112, 97], [110, 117, 115], [115, 101, 105, 108], [101, 114, 97, 117, 113, 115], [104, 116, 114, 111, 110], [116, 115, 97, 101], [104, 116, 117, 111, 115], [116, 115, 101, 119], [101, 100, 105, 108, 115], [110, 114, 117, 116], [116, 105, 97, 119]]
/-- .. and in the model's -/
def kmL : List (List Int) := [[119, 111, 114], [101, 100, 105, 116], [116, 102, 97, 114], [101, 108, 111, 112], [101, 112, 111, 114], [114, 111, 111, 109], [101, 114, 97, 117, 113, 115], [101, 100, 105, 115, 101, 98], [116, 114, 97, 112, 97], [110, 117, 115], [115, 101, 105, 108], [104, 116, 114, 111, 110], [116, 115, 97, 101], [104, 116, 117, 111, 115], [116, 115, 101, 119], [101, 100, 105, 108, 115], [110, 114, 117, 116], [116, 105, 97, 119]]
def IvW (h : AH) : Prop := (∀ i, 0 ≤ i → i < 18 → rd h 3 i = w5 (kwL.getD i.toNat [])) ∧ (∀ i, 0 ≤ i → i < 18 → rd h 27 i = w5 (kwL.getD i.toNat [])) ∧ (∀ i : Int, 0 ≤ i → i < 18 → aJ h 98 i.toNat = Int64.ofInt (w8 (kmL.getD i.toNat [])))
def IvR (h : AH) (i qa ac : Nat) : Prop := aN h ≤ 200 + 600 * i ∧ aS h ≤ 700000 + 4000 * i + 2 * aL h qa + 2 * aL h ac
def Inv (h : AH) (i la fr qa ac : Nat) : Prop := CSh h ∧ MSh h ∧ ob h 118 14 ∧ aL h 118 = 1 ∧ ((la = 5 ∧ fr = 32) ∨ (la = 32 ∧ fr = 5)) ∧ aP h 2 12 = some fr ∧ LB h fr ∧ Scn h 31 la (rd h 94) (aJ h 97) ∧ GA (rd h 94) ∧ Z24 h ∧ IvT h ∧ IvF h ∧ IvJ h ∧ IvQ h qa ac ∧ IvA h ∧ IvK h qa ac ∧ IvW h ∧ IvR h i qa ac
def RtI (i : Nat) (h : AH) : Prop := ∃ la fr qa ac, Inv h i la fr qa ac
section INVS
variable {wi wj : List Nat} {wq : List (Nat × Nat)} {h h' : AH} {i la fr qa ac : Nat}
theorem IvT.gr (I : IvT h) (e0 : rd h' 0 1 = rd h 0 1) (e2 : rd h' 92 2 = rd h 92 2) (e1 : rd h' 1 = rd h 1) (e3 : rd h' 93 = rd h 93) : IvT h' := by
  unfold IvT TByt at I ⊢
  rw [e0, e2, e1, e3]
  exact I
theorem IvF.gr (I : IvF h) (e0 : rd h' 0 2 = rd h 0 2) (e2 : rd h' 92 15 = rd h 92 15) : IvF h' := by
  unfold IvF at I ⊢
  rw [e0, e2]
  exact I
theorem IvJ.gr (I : IvJ h) (e0 : rd h' 0 11 = rd h 0 11) (e1 : rd h' 0 12 = rd h 0 12) (e2 : rd h' 0 13 = rd h 0 13) (e3 : rd h' 92 34 = rd h 92 34) (e4 : rd h' 62 = rd h 62) (e5 : rd h' 102 = rd h 102) (e6 : rd h' 103 = rd h 103) (e7 : rd h' 64 = rd h 64) : IvJ h' := by
  unfold IvJ at I ⊢
  rw [e0, e1, e2, e3, e4, e5, e6, e7]
  exact I
theorem IvQ.gr (I : IvQ h qa ac) (f : Gr wi wj wq h h') (S : CSh h) (e0 : (74, 2) ∉ wq) (e1 : (74, 8) ∉ wq) (e2 : rd h' 74 9 = rd h 74 9) (e3 : rd h' 92 40 = rd h 92 40) (e4 : ac ∉ wi) (e5 : rd h' 108 = rd h 108) : IvQ h' qa ac := by
  obtain ⟨q1, q2, q3, q4, q5, q6, q7, q8, q9, q10⟩ := I
  have l74 : 74 < aN h := (CSh.o74 S).2
  refine ⟨(f.dyn l74 e0).trans q1, f.ob q2, ?_, (f.dyn l74 e1).trans q4, f.ob q5, ?_, ?_, ?_, ?_, q10⟩
  · rw [f.len q2.2]; exact q3
  · rw [f.len q5.2]; exact q6
  · rw [e2, e3]; exact q7
  · rw [e3, f.len q5.2]; exact q8
  · rw [e3, f.row q5.2 e4, e5]; exact q9
theorem IvA.gr (I : IvA h) (e0 : rd h' 92 48 = rd h 92 48) (e1 : rd h' 92 49 = rd h 92 49) (e2 : rd h' 74 13 = rd h 74 13) (e3 : rd h' 74 14 = rd h 74 14) (e4 : rd h' 79 = rd h 79) (e5 : rd h' 114 = rd h 114) : IvA h' := by
  unfold IvA at I ⊢
  rw [e0, e1, e2, e3, e4, e5]
  exact I
/-- the lists touch nothing of what was kept -/
def KF (wi wj : List Nat) (qa ac : Nat) : Prop := (∀ a, a ∈ wi → a < 119 ∨ a = qa ∨ a = ac) ∧ ∀ a, a ∈ wj → a < 119 ∨ a = qa ∨ a = ac
theorem IvK1.gr {k qa' ac' : Nat} (I : IvK1 h qa ac k) (f : Gr wi wj wq h h') (S : CSh h) (hk : (58, k) ∉ wq) (e1 : rd h' 115 = rd h 115) (e2 : aJ h' 116 = aJ h 116) (e3 : rd h' 117 = rd h 117) (kf : KF wi wj qa ac) (nw : (qa' = qa ∨ aN h ≤ qa') ∧ (ac' = ac ∨ aN h ≤ ac')) : IvK1 h' qa' ac' k := by
  have l58 : 58 < aN h := (CSh.o58 S).2
  have es : kS h' k = kS h k := by unfold kS; rw [e1]
  have en : kN h' k = kN h k := by unfold kN; rw [e2]
  unfold IvK1
  rw [es, en, e3, f.dyn l58 hk]
  rcases I with I | ⟨sc, p, q1, q2, q3, q4, q5, q6⟩
  · exact Or.inl I
  · have hin : ∀ j, j ≤ 26 → sc + j ∉ wi := fun j hj q => by rcases kf.1 _ q with c | c | c <;> omega
    have hjn : ∀ j, j ≤ 26 → sc + j ∉ wj := fun j hj q => by rcases kf.2 _ q with c | c | c <;> omega
    have dn : ∀ j k, (sc + j, k) ∉ wq := fun j k q => dyn_no (a := sc + j) (k := k) (by omega) (f.1 _ q)
    have l26 : sc + 26 < aN h := q3.1.2.2.2.2.2.2.2.2.1.2
    refine Or.inr ⟨sc, p, q1, q2, q3.gr f (by omega) (by omega) (dn 0 0) (dn 22 0) (fun j hj => ?_) (fun j hj => ?_) (hin 0 (by omega)) (hin 23 (by omega)) (hjn 24 (by omega)) (hin 25 (by omega)) (hin 26 (by omega)), q4, by omega, by omega⟩
    · rw [Nat.add_assoc]; exact hin (1 + j) (by omega)
    · rw [Nat.add_assoc]; exact hjn (1 + j) (by omega)
theorem IvK.gr {qa' ac' : Nat} (I : IvK h qa ac) (f : Gr wi wj wq h h') (S : CSh h) (hk0 : (58, 0) ∉ wq) (hk1 : (58, 1) ∉ wq) (e1 : rd h' 115 = rd h 115) (e2 : aJ h' 116 = aJ h 116) (e3 : rd h' 117 = rd h 117) (kf : KF wi wj qa ac) (nw : (qa' = qa ∨ aN h ≤ qa') ∧ (ac' = ac ∨ aN h ≤ ac')) : IvK h' qa' ac' := by
  have l58 : 58 < aN h := (CSh.o58 S).2
  refine ⟨I.1.gr f S hk0 e1 e2 e3 kf nw, I.2.1.gr f S hk1 e1 e2 e3 kf nw, ?_⟩
  rw [f.dyn l58 hk0, f.dyn l58 hk1]
  exact I.2.2
theorem IvW.gr (I : IvW h) (e1 : rd h' 3 = rd h 3) (e2 : rd h' 27 = rd h 27) (e3 : aJ h' 98 = aJ h 98) : IvW h' := by
  unfold IvW at I ⊢
  rw [e1, e2, e3]
  exact I
theorem Inv.lt (I : Inv h i la fr qa ac) {a : Nat} (ha : a ≤ 118) : a < aN h := Nat.lt_of_le_of_lt ha I.2.2.1.2
/-- a call that leaves the state as it was: only the model's scratch rows change -/
def QW : List Int := [2, 15, 34, 40, 48, 49]
theorem Inv.quiet {i' : Nat} (I : Inv h i la fr qa ac) (f : Fr [92, 99, 100, 101] [] [] h h') (e : ∀ j, j ∈ QW → rd h' 92 j = rd h 92 j) (z : Z24 h') (hi : i ≤ i') : Inv h' i' la fr qa ac := by
  have g := f.gr
  have lt := fun (a : Nat) (ha : a ≤ 118) => I.lt ha
  obtain ⟨c1, c2, c3, c4, c5, c6, c7, c8, c9, c10, c11, c12, c13, c14, c15, c16, c17, c18⟩ := I
  have r94 : rd h' 94 = rd h 94 := f.row (by decide)
  have j97 : aJ h' 97 = aJ h 97 := f.2.2.2.2.2.1 97 (by decide)
  have a14 := c14
  obtain ⟨q1, q2, q3, q4, q5, q6, q7, q8, q9, q10, q11⟩ := a14
  refine ⟨c1.gr g, c2.gr g, g.ob c3, (g.len c3.2).trans c4, c5, (g.dyn (lt 2 (by omega)) (by decide)).trans c6, c7.gr g (by omega), ?_, ?_, z, c11.gr ?_ (e _ (by decide)) ?_ ?_, c12.gr ?_ (e _ (by decide)), c13.gr ?_ ?_ ?_ (e _ (by decide)) ?_ ?_ ?_ ?_, c14.gr g c1 (by decide) (by decide) ?_ (e _ (by decide)) ?_ ?_, c15.gr (e _ (by decide)) (e _ (by decide)) ?_ ?_ ?_ ?_, c16.gr g c1 (by decide) (by decide) ?_ ?_ ?_ ?_ ⟨Or.inl rfl, Or.inl rfl⟩, c17.gr ?_ ?_ ?_, ?_⟩
  · rw [r94, j97]
    exact c8.gr g (by omega) (Or.inl rfl) (by decide) (by decide) (fun j hj => by simp; omega) (fun j hj => by simp) (by decide) (by decide) (by decide) (by decide) (by decide)
  · rw [r94]; exact c9
  all_goals first | (rw [f.row (by decide)]; done) | exact f.row (by decide) | exact f.2.2.2.2.2.1 _ (by decide) | skip
  · simp
    omega
  · refine ⟨fun a ha => ?_, fun a ha => absurd ha List.not_mem_nil⟩
    simp at ha
    omega
  · unfold IvR at c18 ⊢
    rw [f.1, f.2.1, g.len q2.2, g.len q5.2]
    omega
end INVS
section MAS
variable {h : AH} {post : AH → Prop}
theorem m_asIt (M : MSh h) (Z : Z24 h) (k : ∀ h', Fr [99, 100] [] [] h h' → rd h' 99 = tS (rd h 94) → rd h' 100 = zC (rd h 94) → post h') : wp_X12_asItIs h 92 post := by
  unfold wp_X12_asItIs
  refine lf_for (W := fun n (b : AH) i => wl_X12_asItIs_2 post n b 92 (iI i)) (lo := 0) (hi := 24) (fun i b => Fr [99, 100] [] [] h b ∧ (∀ j, rd b 99 j = if 0 ≤ j ∧ j < i then rd h 94 (225 + j) else rd h 99 j) ∧ (∀ j, rd b 100 j = if 0 ≤ j ∧ j < i then rd h 94 (99 + j) else rd h 100 j)) (by omega) ?_ ?_ h
    ⟨(Fr.refl h).mono (by simp) (by simp) (by simp), fun j => by rw [if_neg (by omega)], fun j => by rw [if_neg (by omega)]⟩
  · intro n b i i1 i2 hb kk
    obtain ⟨f, t1, z1⟩ := hb
    have Mb := M.fr f
    show wb_X12_asItIs_2 (wl_X12_asItIs_2 post n) b 92 (iI i) post
    unfold wb_X12_asItIs_2
    simp (disch := omega) only [MSh.o0 Mb, MSh.p1 Mb, MSh.o1 Mb, MSh.l1 Mb, MSh.p6 Mb, MSh.o2 Mb, MSh.l2 Mb, MSh.p7 Mb, MSh.o3 Mb, MSh.l3 Mb, MSh.p8 Mb, MSh.o4 Mb, MSh.l4 Mb, MSh.p9 Mb, MSh.o5 Mb, MSh.l5 Mb, MSh.p10 Mb, MSh.o6 Mb, MSh.l6 Mb, MSh.p24 Mb, MSh.o7 Mb, MSh.l7 Mb, MSh.p25 Mb, MSh.o8 Mb, MSh.l8 Mb, MSh.p26 Mb, MSh.o9 Mb, MSh.l9 Mb, MSh.p32 Mb, MSh.o10 Mb, MSh.l10 Mb, MSh.p33 Mb, MSh.o11 Mb, MSh.l11 Mb, MSh.p35 Mb, MSh.o12 Mb, MSh.l12 Mb, MSh.p36 Mb, MSh.o13 Mb, MSh.l13 Mb, MSh.p37 Mb, MSh.o14 Mb, MSh.l14 Mb, MSh.p38 Mb, MSh.o15 Mb, MSh.l15 Mb, MSh.p39 Mb, MSh.o16 Mb, MSh.l16 Mb, MSh.p42 Mb, MSh.o17 Mb, MSh.l17 Mb, MSh.p43 Mb, MSh.o18 Mb, MSh.l18 Mb, MSh.p44 Mb, MSh.o19 Mb, MSh.l19 Mb, MSh.p45 Mb, MSh.o20 Mb, MSh.l20 Mb, MSh.p46 Mb, MSh.o21 Mb, MSh.l21 Mb, MSh.p47 Mb, MSh.o22 Mb, MSh.l22 Mb, MSh.p50 Mb, MSh.o23 Mb, MSh.l23 Mb, MSh.p51 Mb, MSh.o24 Mb, MSh.l24 Mb, MSh.p52 Mb, MSh.o25 Mb, MSh.l25 Mb, -Int.reduceToNat, -Int32.reduceToNatClampNeg, il0, il1, il2, il3, il4, il5, il6, il7, il8, il9, il10, il11, il12, il13, il14, il15, il16, il17, il18, il19, il20, il21, il22, il23, il24, il25, il26, il27, il28, il29, il30, il31, il32, il35, il36, il38, il40, il42, il43, il44, il45, il46, il47, il48, il49, il50, il51, il52, il57, il59, il60, il63, il64, il75, il80, il95, il96, il97, il98, il99, il100, il120, il122, il123, il127, il128, il135, il167, il175, il225, il249, il250, il255, il256, il360, il370, il384, il600, il700, il740, il900, il940, il1024, il1600, il4800, il64000, il125000, il262143, il1000000000, iI_toInt, iI_add, iI_sub, iI_mul, iI_neg, iI_lt, iI_le, iI_eq, iI_n, iI_in, iI_div, iI_mod, iI_shm, iI_and1, iI_and7, iI_and63, iI_shr3, iI_shr6, rd_I, ob, Option.some.injEq, exists_eq_left', exists_eq_left, true_and, and_true, fqI, fqJ, eq_self, true_or, or_true, bP_0, bP_0i, npP, bP_1i, bP_b, not_true_eq_false, not_false_eq_true, false_implies, true_implies, implies_true, Classical.not_not, and_self, cP, cP', ite_n, ite_T, ite_F, ite_t, ite_f]
    intro h3 e3
    have q := rd_bd b 94 (225 + i)
    obtain ⟨f3, r3⟩ := wI (by omega) q.1 q.2 e3
    have M3 := Mb.fr f3
    simp (disch := omega) only [MSh.o0 M3, MSh.p1 M3, MSh.o1 M3, MSh.l1 M3, MSh.p6 M3, MSh.o2 M3, MSh.l2 M3, MSh.p7 M3, MSh.o3 M3, MSh.l3 M3, MSh.p8 M3, MSh.o4 M3, MSh.l4 M3, MSh.p9 M3, MSh.o5 M3, MSh.l5 M3, MSh.p10 M3, MSh.o6 M3, MSh.l6 M3, MSh.p24 M3, MSh.o7 M3, MSh.l7 M3, MSh.p25 M3, MSh.o8 M3, MSh.l8 M3, MSh.p26 M3, MSh.o9 M3, MSh.l9 M3, MSh.p32 M3, MSh.o10 M3, MSh.l10 M3, MSh.p33 M3, MSh.o11 M3, MSh.l11 M3, MSh.p35 M3, MSh.o12 M3, MSh.l12 M3, MSh.p36 M3, MSh.o13 M3, MSh.l13 M3, MSh.p37 M3, MSh.o14 M3, MSh.l14 M3, MSh.p38 M3, MSh.o15 M3, MSh.l15 M3, MSh.p39 M3, MSh.o16 M3, MSh.l16 M3, MSh.p42 M3, MSh.o17 M3, MSh.l17 M3, MSh.p43 M3, MSh.o18 M3, MSh.l18 M3, MSh.p44 M3, MSh.o19 M3, MSh.l19 M3, MSh.p45 M3, MSh.o20 M3, MSh.l20 M3, MSh.p46 M3, MSh.o21 M3, MSh.l21 M3, MSh.p47 M3, MSh.o22 M3, MSh.l22 M3, MSh.p50 M3, MSh.o23 M3, MSh.l23 M3, MSh.p51 M3, MSh.o24 M3, MSh.l24 M3, MSh.p52 M3, MSh.o25 M3, MSh.l25 M3, -Int.reduceToNat, -Int32.reduceToNatClampNeg, il0, il1, il2, il3, il4, il5, il6, il7, il8, il9, il10, il11, il12, il13, il14, il15, il16, il17, il18, il19, il20, il21, il22, il23, il24, il25, il26, il27, il28, il29, il30, il31, il32, il35, il36, il38, il40, il42, il43, il44, il45, il46, il47, il48, il49, il50, il51, il52, il57, il59, il60, il63, il64, il75, il80, il95, il96, il97, il98, il99, il100, il120, il122, il123, il127, il128, il135, il167, il175, il225, il249, il250, il255, il256, il360, il370, il384, il600, il700, il740, il900, il940, il1024, il1600, il4800, il64000, il125000, il262143, il1000000000, iI_toInt, iI_add, iI_sub, iI_mul, iI_neg, iI_lt, iI_le, iI_eq, iI_n, iI_in, iI_div, iI_mod, iI_shm, iI_and1, iI_and7, iI_and63, iI_shr3, iI_shr6, rd_I, ob, Option.some.injEq, exists_eq_left', exists_eq_left, true_and, and_true, fqI, fqJ, eq_self, true_or, or_true, bP_0, bP_0i, npP, bP_1i, bP_b, not_true_eq_false, not_false_eq_true, false_implies, true_implies, implies_true, Classical.not_not, and_self, cP, cP', ite_n, ite_T, ite_F, ite_t, ite_f]
    intro h6 e6
    have q6 := rd_bd h3 94 (99 + i)
    obtain ⟨f6, r6⟩ := wI (by omega) q6.1 q6.2 e6
    have g3 : Fr [99, 100] [] [] b h3 := f3.mono (by simp) (by simp) (by simp)
    have g6 : Fr [99, 100] [] [] h3 h6 := f6.mono (by simp) (by simp) (by simp)
    refine kk h6 ⟨f.trans (g3.trans g6), fun j => ?_, fun j => ?_⟩
    · rw [f6.row (by decide), r3]
      by_cases c : j = i
      · subst c
        rw [updT_s, f.row (by decide), if_pos (by omega)]
      · rw [updT_n c, t1 j]
        by_cases c2 : 0 ≤ j ∧ j < i
        · rw [if_pos c2, if_pos (by omega)]
        · rw [if_neg c2, if_neg (by omega)]
    · rw [r6]
      by_cases c : j = i
      · subst c
        rw [updT_s, f3.row (by decide), f.row (by decide), if_pos (by omega)]
      · rw [updT_n c, f3.row (by decide), z1 j]
        by_cases c2 : 0 ≤ j ∧ j < i
        · rw [if_pos c2, if_pos (by omega)]
        · rw [if_neg c2, if_neg (by omega)]
  · intro n b hb
    show wb_X12_asItIs_2 (wl_X12_asItIs_2 post n) b 92 (iI 24) post
    unfold wb_X12_asItIs_2
    simp (disch := omega) only [-Int.reduceToNat, -Int32.reduceToNatClampNeg, il0, il1, il2, il3, il4, il5, il6, il7, il8, il9, il10, il11, il12, il13, il14, il15, il16, il17, il18, il19, il20, il21, il22, il23, il24, il25, il26, il27, il28, il29, il30, il31, il32, il35, il36, il38, il40, il42, il43, il44, il45, il46, il47, il48, il49, il50, il51, il52, il57, il59, il60, il63, il64, il75, il80, il95, il96, il97, il98, il99, il100, il120, il122, il123, il127, il128, il135, il167, il175, il225, il249, il250, il255, il256, il360, il370, il384, il600, il700, il740, il900, il940, il1024, il1600, il4800, il64000, il125000, il262143, il1000000000, iI_toInt, iI_add, iI_sub, iI_mul, iI_neg, iI_lt, iI_le, iI_eq, iI_n, iI_in, iI_div, iI_mod, iI_shm, iI_and1, iI_and7, iI_and63, iI_shr3, iI_shr6, rd_I, ob, Option.some.injEq, exists_eq_left', exists_eq_left, true_and, and_true, fqI, fqJ, eq_self, true_or, or_true, bP_0, bP_0i, npP, bP_1i, bP_b, not_true_eq_false, not_false_eq_true, false_implies, true_implies, implies_true, Classical.not_not, and_self, cP, cP', ite_n, ite_T, ite_F, ite_t, ite_f]
    refine k b hb.1 (funext fun j => ?_) (funext fun j => ?_)
    · rw [hb.2.1 j]
      unfold tS
      by_cases c : 0 ≤ j ∧ j < 24
      · rw [if_pos c, if_pos c]
      · rw [if_neg c, if_neg c]
        by_cases d : j < 0
        · exact rd_neg d
        · exact Z.1 j (by omega)
    · rw [hb.2.2 j]
      unfold zC
      by_cases c : 0 ≤ j ∧ j < 24
      · rw [if_pos c, if_pos c]
      · rw [if_neg c, if_neg c]
        by_cases d : j < 0
        · exact rd_neg d
        · exact Z.2 j (by omega)
end MAS
