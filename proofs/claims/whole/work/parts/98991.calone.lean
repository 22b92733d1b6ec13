/-! ALONE in the class -/
/-- a SPOT of the class from the model's place -/
def csA (v : Int) : Int := v / 2 + 64 * (v % 2)
def plc (t : Int → Int) (r : Int) : Int := 2 * (8 * t (3 * r + 1) + t (3 * r)) + t (3 * r + 2)
def ptA (t : Int → Int) (r v : Int) : Int → Int := tr3 t r (v / 2 % 8) (v / 16) (v % 2)
noncomputable def nxA (s t z : Int → Int) (r hr v a : Int) : Int := iteP (whyT s (ptA t r v) z r (a - 5 * r) hr = 0) (plc (candT s (ptA t r v) z r (a - 5 * r)) r) (-1)
def VA (s t z : Int → Int) (r v : Int) : Prop := (0 ≤ v ∧ v < 128) ∧ VT s (ptA t r v) z
section ALN
variable {h h1 h2 h' h0 g0 : AH} {qa0 qa ac la : Nat} {postV : AH → Prop} {post : AH → Int32 → Prop} {a b c d f i j k t' v w x y pl r hr how goal st u : Int} {s t z X F B : Int → Int} {S : BS} {zz : Int64}
theorem csA_inj (h1 : 0 ≤ v ∧ v < 128) (h2 : 0 ≤ w ∧ w < 128) (e : csA v = csA w) : v = w := by unfold csA at e; omega
theorem csA_bd (h1 : 0 ≤ v ∧ v < 128) : 0 ≤ csA v ∧ csA v < 128 := by unfold csA; omega
theorem csA_plc (hS : Spot t z r) : csA (plc t r) = enc t r := by
  obtain ⟨⟨a1, a2⟩, ⟨b1, b2⟩, ⟨c1, c2⟩, -⟩ := hS
  unfold csA plc enc
  omega
theorem plc_pt (h1 : 0 ≤ v ∧ v < 128) : plc (ptA t r v) r = v := by
  unfold plc ptA
  rw [tr3_0, tr3_1, tr3_2]
  omega
theorem enc_pt (h1 : 0 ≤ v ∧ v < 128) : enc (ptA t r v) r = csA v := by
  unfold enc ptA csA
  rw [tr3_0, tr3_1, tr3_2]
  omega
theorem tr3_tr3 {x1 y1 u1 x2 y2 u2 : Int} : tr3 (tr3 t r x1 y1 u1) r x2 y2 u2 = tr3 t r x2 y2 u2 := by
  funext j
  by_cases c0 : j = 3 * r
  · rw [c0, tr3_0, tr3_0]
  · by_cases c1 : j = 3 * r + 1
    · rw [c1, tr3_1, tr3_1]
    · by_cases c2 : j = 3 * r + 2
      · rw [c2, tr3_2, tr3_2]
      · rw [tr3_n (by omega), tr3_n (by omega), tr3_n (by omega)]
theorem pt_of {x1 y1 u1 : Int} (hx : 0 ≤ x1 ∧ x1 < 8) (hy : 0 ≤ y1 ∧ y1 < 8) (hu : 0 ≤ u1 ∧ u1 ≤ 1) : tr3 t r x1 y1 u1 = ptA t r (2 * (8 * y1 + x1) + u1) := by
  unfold ptA
  rw [show (2 * (8 * y1 + x1) + u1) / 2 % 8 = x1 by omega, show (2 * (8 * y1 + x1) + u1) / 16 = y1 by omega, show (2 * (8 * y1 + x1) + u1) % 2 = u1 by omega]
theorem pt_cand (hS : Spot (candT s (ptA t r v) z r how) z r) : candT s (ptA t r v) z r how = ptA t r (plc (candT s (ptA t r v) z r how) r) := by
  obtain ⟨a, b, c, -⟩ := hS
  have e : ∃ x1 y1 u1, candT s (ptA t r v) z r how = tr3 t r x1 y1 u1 := by
    unfold candT
    split
    · unfold trnT ptA; rw [tr3_tr3]; exact ⟨_, _, _, rfl⟩
    · unfold sldT ptA; rw [tr3_tr3]; exact ⟨_, _, _, rfl⟩
  obtain ⟨x1, y1, u1, e⟩ := e
  rw [e] at a b c ⊢
  rw [tr3_0] at a
  rw [tr3_1] at b
  rw [tr3_2] at c
  unfold plc
  rw [tr3_0, tr3_1, tr3_2]
  exact pt_of a b c
theorem pt_id (hS : Spot t z r) : t = ptA t r (plc t r) := by
  obtain ⟨a, b, c, -⟩ := hS
  have e : t = tr3 t r (t (3 * r)) (t (3 * r + 1)) (t (3 * r + 2)) := by
    have := tr3_back t r 0 0 0
    rw [tr3_tr3] at this
    exact this.symm
  unfold plc
  rw [← pt_of a b c]
  exact e
/-- where ACTS lead is a TOWN again -/
theorem nxA_V (hZ : Z1 z r) (n0 : s 0 ≤ 8) (n1 : s 1 ≤ 8) (h1 : 0 ≤ r) (h2 : r < s 2) (hv : VA s t z r v) (hn : 0 ≤ nxA s t z r hr v a) : VA s t z r (nxA s t z r hr v a) := by
  unfold nxA at hn ⊢
  by_cases c : whyT s (ptA t r v) z r (a - 5 * r) hr = 0
  · rw [ite_t c] at hn ⊢
    obtain ⟨V, Sp, _⟩ := VT.cand hv.2 hZ n0 n1 h1 h2 c
    refine ⟨?_, by rw [← pt_cand Sp]; exact V⟩
    obtain ⟨⟨a1, a2⟩, ⟨b1, b2⟩, ⟨c1, c2⟩, -⟩ := Sp
    unfold plc
    omega
  · rw [ite_f c] at hn; omega
theorem zb_one1 (h1 : 0 ≤ k) (h2 : k < 64) (h3 : 0 ≤ j) (h4 : j < 64) : zb ((1 : Int64) <<< ((iI k).toInt64 &&& 63)) j ↔ j = k := by
  rw [zb_shl _ h1 h2 h3 h4]
  refine ⟨fun u => ?_, fun u => ⟨by omega, (zb_1 (by omega) (by omega)).mpr (by omega)⟩⟩
  have := (zb_1 (by omega) (by omega)).mp u.2
  omega
theorem z_and1 (h1 : 0 ≤ k) (h2 : k < 64) : (zz &&& ((1 : Int64) <<< ((iI k).toInt64 &&& 63)) = 0) ↔ ¬ zb zz k := by
  rw [z_and0]
  refine ⟨fun u q => u k h1 h2 ⟨q, (zb_one1 h1 h2 h1 h2).mpr rfl⟩, fun u j j0 j1 q => ?_⟩
  have := (zb_one1 h1 h2 j0 j1).mp q.2
  rw [this] at q
  exact u q.1
/-- SPOTS seen -/
def snA (h : AH) (v : Int) : Prop := zb (aJ h 75 (v / 64).toNat) (v % 64)
theorem c_isNewSpot (S : CSh h) (hv : 0 ≤ v ∧ v < 128) (K1 : ∀ h', ¬ snA h v → Fr [] [75] [] h h' → (∀ u, 0 ≤ u → u < 128 → (snA h' u ↔ snA h u ∨ u = v)) → post h' (iI 1)) (K0 : snA h v → post h (iI 0)) : wp_X6_isNewSpot h 74 (iI v) post := by
  have e6 : iI v >>> (iI 6 &&& iI 31) = iI (v / 64) := by rw [iI_shm (by omega) (by omega), iI_shr6 (by omega) (by omega)]
  unfold wp_X6_isNewSpot
  simp (disch := omega) only [CSh.o0 S, CSh.o1 S, CSh.o2 S, CSh.o3 S, CSh.o26 S, CSh.o27 S, CSh.o29 S, CSh.o30 S, CSh.o31 S, CSh.o56 S, CSh.o57 S, CSh.o58 S, CSh.o62 S, CSh.o66 S, CSh.o70 S, CSh.o74 S, CSh.o75 S, CSh.o77 S, CSh.o79 S, CSh.o80 S, CSh.o81 S, CSh.o82 S, CSh.o83 S, CSh.o84 S, CSh.o85 S, CSh.o86 S, CSh.o87 S, CSh.o88 S, CSh.o53 S, CSh.o54 S, CSh.o55 S, CSh.o59 S, CSh.o60 S, CSh.o61 S, CSh.o63 S, CSh.o64 S, CSh.o65 S, CSh.o67 S, CSh.o68 S, CSh.o69 S, CSh.o71 S, CSh.o72 S, CSh.o73 S, CSh.o89 S, CSh.o90 S, CSh.o91 S, CSh.l1 S, CSh.l3 S, CSh.l27 S, CSh.l29 S, CSh.l30 S, CSh.l56 S, CSh.l57 S, CSh.l58 S, CSh.l75 S, CSh.l77 S, CSh.l79 S, CSh.l81 S, CSh.l82 S, CSh.l83 S, CSh.l84 S, CSh.l85 S, CSh.l86 S, CSh.l87 S, CSh.l88 S, CSh.l54 S, CSh.l55 S, CSh.l60 S, CSh.l61 S, CSh.l64 S, CSh.l65 S, CSh.l68 S, CSh.l69 S, CSh.l72 S, CSh.l73 S, CSh.l90 S, CSh.l91 S, CSh.p0_0 S, CSh.p0_3 S, CSh.p0_4 S, CSh.p0_5 S, CSh.p0_6 S, CSh.p0_7 S, CSh.p0_8 S, CSh.p0_9 S, CSh.p0_10 S, CSh.p0_14 S, CSh.p2_0 S, CSh.p26_0 S, CSh.p26_13 S, CSh.p26_14 S, CSh.p31_1 S, CSh.p31_3 S, CSh.p31_4 S, CSh.p62_0 S, CSh.p66_0 S, CSh.p70_0 S, CSh.p74_0 S, CSh.p74_1 S, CSh.p74_6 S, CSh.p74_7 S, CSh.p74_10 S, CSh.p80_1 S, CSh.p80_2 S, CSh.p80_3 S, CSh.p80_4 S, CSh.p80_5 S, CSh.p80_6 S, CSh.p80_7 S, CSh.p80_8 S, CSh.p53_1 S, CSh.p53_2 S, CSh.p59_1 S, CSh.p59_2 S, CSh.p63_1 S, CSh.p63_2 S, CSh.p67_1 S, CSh.p67_2 S, CSh.p71_1 S, CSh.p71_2 S, CSh.p89_1 S, CSh.p89_2 S, e6, lgc, z_and1, -Int.reduceToNat, -Int32.reduceToNatClampNeg, il0, il1, il2, il3, il4, il5, il6, il7, il8, il9, il10, il11, il12, il13, il14, il15, il16, il17, il18, il19, il20, il21, il22, il23, il24, il25, il26, il27, il28, il29, il30, il31, il32, il35, il36, il38, il40, il42, il43, il44, il45, il46, il47, il48, il49, il50, il51, il52, il57, il59, il60, il63, il64, il75, il80, il95, il96, il97, il98, il99, il100, il120, il122, il123, il127, il128, il135, il167, il175, il225, il249, il250, il255, il256, il360, il370, il384, il600, il700, il740, il900, il940, il1024, il1600, il4800, il64000, il125000, il262143, il1000000000, iI_toInt, iI_add, iI_sub, iI_mul, iI_neg, iI_lt, iI_le, iI_eq, iI_n, iI_in, iI_div, iI_mod, iI_shm, iI_and1, iI_and7, iI_and63, iI_shr3, iI_shr6, rd_I, ob, Option.some.injEq, exists_eq_left', exists_eq_left, true_and, and_true, fqI, fqJ, eq_self, true_or, or_true, bP_0, bP_0i, npP, bP_1i, bP_b, not_true_eq_false, not_false_eq_true, false_implies, true_implies, implies_true, Classical.not_not, and_self]
  refine ⟨fun c => ?_, fun c => K0 c⟩
  intro g1 w1
  have f1 : Fr [] [75] [] h g1 := by rw [w1]; exact fr_hJ
  refine K1 g1 c f1 fun u u0 u1 => ?_
  unfold snA
  rw [w1, aJ_hJ]
  by_cases cu : u / 64 = v / 64
  · rw [if_pos (by omega), zb_or, zb_one1 (by omega) (by omega) (by omega) (by omega), cu]
    refine ⟨fun q => q.elim Or.inl (fun e => Or.inr (by omega)), fun q => q.elim Or.inl (fun e => Or.inr (by omega))⟩
  · rw [if_neg (by omega)]
    exact ⟨Or.inl, fun q => q.elim id (fun e => absurd (by rw [e]) cu)⟩
/-- the class while it looks for ALONE -/
def AS (h0 h : AH) (qa0 qa la : Nat) (s t z : Int → Int) (r goal : Int) (S : BS) : Prop := (CQ h0 h qa0 qa S.1 (csA goal) (fun j => csA (S.2.1 j)) S.2.2.1 S.2.2.2) ∧ (∀ u, 0 ≤ u → u < 128 → (snA h u ↔ ∃ j, 0 ≤ j ∧ j < S.1 ∧ csA (S.2.1 j) = u)) ∧ (LB h la) ∧ (LR h la s) ∧ (la = 5 ∨ la = 32)
theorem AS.C {h0 h : AH} {qa0 qa la : Nat} {s t z : Int → Int} {r goal : Int} {S : BS} (R : AS h0 h qa0 qa la s t z r goal S) : CQ h0 h qa0 qa S.1 (csA goal) (fun j => csA (S.2.1 j)) S.2.2.1 S.2.2.2 := R.1
theorem AS.sn {h0 h : AH} {qa0 qa la : Nat} {s t z : Int → Int} {r goal : Int} {S : BS} (R : AS h0 h qa0 qa la s t z r goal S) : ∀ u, 0 ≤ u → u < 128 → (snA h u ↔ ∃ j, 0 ≤ j ∧ j < S.1 ∧ csA (S.2.1 j) = u) := R.2.1
theorem AS.H {h0 h : AH} {qa0 qa la : Nat} {s t z : Int → Int} {r goal : Int} {S : BS} (R : AS h0 h qa0 qa la s t z r goal S) : LB h la := R.2.2.1
theorem AS.L {h0 h : AH} {qa0 qa la : Nat} {s t z : Int → Int} {r goal : Int} {S : BS} (R : AS h0 h qa0 qa la s t z r goal S) : LR h la s := R.2.2.2.1
theorem AS.hl {h0 h : AH} {qa0 qa la : Nat} {s t z : Int → Int} {r goal : Int} {S : BS} (R : AS h0 h qa0 qa la s t z r goal S) : la = 5 ∨ la = 32 := R.2.2.2.2
theorem cs_upd {Q : Int → Int} : (fun j => csA (updT Q t' v j)) = updT (fun j => csA (Q j)) t' (csA v) := by
  funext j
  by_cases c : j = t'
  · rw [c, updT_s, updT_s]
  · rw [updT_n c, updT_n c]
theorem AS.act (A : AS h0 h qa0 qa la s t z r goal S) (I : BI (VA s t z r) (5 * r) (5 * r + 5) S) (rm : aN h0 ≤ 400000 ∧ aS h0 ≤ 4000000) (hi : 0 ≤ i ∧ i < S.1) (gs : GS s) (e : EZ z s) (hr8 : 0 ≤ r ∧ r < s 2) (hh : 0 ≤ hr ∧ hr < 24) (ho : 0 ≤ how ∧ how < 5) (T : TR h 89 la s (ptA t r (S.2.1 i)) z) (K : ∀ h' qa', AS h0 h' qa0 qa' la s t z r goal (bAct (nxA s t z r hr) i (5 * r + how) S) → TR h' 89 la s (ptA t r (S.2.1 i)) z → postV h') :
    wp_X8_attempt h 89 (iI r) (iI how) (iI hr) (fun hv3 iv4 => (iv4 < iI 0 → postV hv3) ∧ (¬ iv4 < iI 0 → ob hv3 74 6 ∧ wp_X6_isNewSpot hv3 74 iv4 (fun hv5 iv6 => (iv6 = iI 0 → postV hv5) ∧ (¬ iv6 = iI 0 → ob hv5 74 6 ∧ wp_X6_push hv5 74 iv4 (iI (r * 5 + how)) (iI i) postV)))) := by
  have n2 : s 2 ≤ 8 := gs.1.2.2.2.1
  have n0 : s 0 ≤ 8 := gs.1.2.1
  have n1 : s 1 ≤ 8 := gs.1.2.2.1
  have vi := I.2.1 i hi.1 hi.2
  have hZ := Z1.of e gs.2.1 hr8.1 hr8.2 n2
  rw [c_attempt A.H A.L T gs e vi.2 hr8.1 hr8.2 ho.1 (by omega) hh.1 hh.2]
  have wb := why_bd (s := s) (t := ptA t r (S.2.1 i)) (z := z) (r := r) (how := how) (hr := hr)
  have t128 := I.le (M := 128) (fun v hv => hv.1)
  have nxe : nxA s t z r hr (S.2.1 i) (5 * r + how) = iteP (whyT s (ptA t r (S.2.1 i)) z r how hr = 0) (plc (candT s (ptA t r (S.2.1 i)) z r how) r) (-1) := by
    unfold nxA
    rw [show 5 * r + how - 5 * r = how by omega]
  unfold attT
  by_cases c0 : whyT s (ptA t r (S.2.1 i)) z r how hr = 0
  · rw [ite_t c0] at nxe ⊢
    obtain ⟨V, Sp, _⟩ := VT.cand vi.2 hZ n0 n1 hr8.1 hr8.2 c0
    have eb := enc_nums Sp
    have ec := csA_plc Sp
    have vn := nxA_V (hr := hr) (a := 5 * r + how) hZ n0 n1 hr8.1 hr8.2 vi (by rw [nxe]; obtain ⟨⟨a1, a2⟩, ⟨b1, b2⟩, ⟨c1, c2⟩, -⟩ := Sp; unfold plc; omega)
    rw [nxe] at vn
    rw [← ec] at eb ⊢
    generalize hw : plc (candT s (ptA t r (S.2.1 i)) z r how) r = w at nxe vn eb
    refine ⟨fun u => by rw [iI_lt (by omega) (by omega) (by omega) (by omega)] at u; omega, fun _ => ⟨A.C.S.o74, c_isNewSpot A.C.S (csA_bd vn.1) (fun g1 ns f1 s1 => ⟨fun u => absurd u i10, fun _ => ?_⟩) (fun sn => ⟨fun _ => ?_, fun u => absurd rfl u⟩)⟩⟩
    · have nsB : ¬ seenB S w := fun ⟨j, j0, j1, j2⟩ => ns ((A.sn _ (csA_bd vn.1).1 (csA_bd vn.1).2).mpr ⟨j, j0, j1, by rw [j2]⟩)
      have eS : bAct (nxA s t z r hr) i (5 * r + how) S = (S.1 + 1, updT S.2.1 S.1 w, updT S.2.2.1 S.1 i, updT S.2.2.2 S.1 (5 * r + how)) := by
        unfold bAct
        rw [nxe, ite_t ⟨vn.1.1, nsB⟩]
      have h128 : S.1 < 128 := by
        have B2 := bAct_I (nx := nxA s t z r hr) (i := i) (a := 5 * r + how) I hi.1 hi.2 (by omega) (fun _ => by rw [nxe]; exact vn)
        have := B2.le (M := 128) (fun v hv => hv.1)
        rw [eS] at this
        have : S.1 + 1 ≤ 128 := this
        omega
      have S1 := A.C.S.gr f1.gr
      have C1 : CQ h0 g1 qa0 qa S.1 (csA goal) (fun j => csA (S.2.1 j)) S.2.2.1 S.2.2.2 := by
        obtain ⟨SS, G, m0, p2, oq, ql, qd, nw, rN, rS, tt, tb, tl, gl, gg, qq, xb, ro⟩ := A.C
        have q7 : qa ∉ [75] := by simp; omega
        exact ⟨S1, G.via f1.gr (fun a _ q => absurd q List.not_mem_nil) (fun a _ q => by rw [List.mem_singleton.mp q]; unfold sWj; simp) (fun a k _ q => absurd q List.not_mem_nil), m0, by rw [f1.aPe]; exact p2, f1.gr.ob oq, by rw [f1.2.2.2.1]; exact ql, qd, nw, by rw [f1.1, f1.2.2.2.1]; exact rN, by rw [f1.2.1, f1.2.2.2.1]; exact rS, by rw [f1.row (by simp)]; exact tt, tb, by rw [f1.2.2.2.1]; exact tl, by rw [f1.row (by simp)]; exact gl, by rw [f1.row (by simp)]; exact gg, fun j j0 j1 => by rw [f1.2.2.2.2.2.1 qa q7]; exact qq j j0 j1, xb, fun j hj => by rw [f1.row (by simp)]; exact ro j hj⟩
      rw [show r * 5 + how = 5 * r + how by omega]
      have nb := csA_bd vn.1
      refine ⟨S1.o74, c_push C1 rm (by omega) (by omega) (by omega) (by omega) fun h' qa' C' G' r' => ?_⟩
      have q7 : (75 : Nat) ∉ [qa] := by have := A.C.qd; simp; omega
      have qla : ∀ j, j ≤ 20 → la + j ∉ [qa] := fun j hj => by have := A.C.qd; have := A.hl; simp; omega
      have l75 := S1.o75.2
      refine K h' qa' ?_ ?_
      · rw [eS]
        have hl := A.hl
        have H1 := A.H.gr f1.gr (by omega)
        refine ⟨by rw [cs_upd]; exact C', fun u u0 u1 => ?_, H1.gr G' (by omega), (A.L.grw A.H f1.gr (fun j _ => List.not_mem_nil) (fun j hj => by simp; omega)).grw H1 G' (fun j hj => by simp; omega) qla, hl⟩
        unfold snA
        rw [G'.jow l75 q7]
        have s1u := s1 u u0 u1
        unfold snA at s1u
        rw [s1u]
        have sn := A.sn u u0 u1
        unfold snA at sn
        rw [sn]
        refine ⟨fun q => ?_, fun ⟨j, j0, j1, j2⟩ => ?_⟩
        · rcases q with ⟨j, j0, j1, j2⟩ | q
          · refine ⟨j, j0, by show j < S.1 + 1; omega, ?_⟩
            show csA (updT S.2.1 S.1 w j) = u
            rw [updT_n (by omega)]; exact j2
          · refine ⟨S.1, by have := I.1; omega, by show S.1 < S.1 + 1; omega, ?_⟩
            show csA (updT S.2.1 S.1 w S.1) = u
            rw [updT_s, q]
        · have j1 : j < S.1 + 1 := j1
          have j2 : csA (updT S.2.1 S.1 w j) = u := j2
          by_cases cj : j = S.1
          · rw [cj, updT_s] at j2; exact Or.inr j2.symm
          · rw [updT_n cj] at j2; exact Or.inl ⟨j, j0, by omega, j2⟩
      · exact (T.gr f1.gr (by intro k hk; unfold DynP; simp [hk]) List.not_mem_nil List.not_mem_nil (by simp)).gr G' (by intro k hk; unfold DynP; simp [hk]) (by simp) (by simp) (by have := A.C.qd; simp; omega)
    · obtain ⟨j, j0, j1, j2⟩ := (A.sn _ (csA_bd vn.1).1 (csA_bd vn.1).2).mp sn
      have sB : seenB S w := ⟨j, j0, j1, csA_inj (I.2.1 j j0 j1).1 vn.1 j2⟩
      have eS : bAct (nxA s t z r hr) i (5 * r + how) S = S := by
        unfold bAct
        rw [nxe, ite_f (fun u => u.2 sB)]
      exact K h qa (by rw [eS]; exact A) T
  · rw [ite_f c0] at nxe ⊢
    refine ⟨fun _ => ?_, fun u => absurd (show iI _ < iI 0 by rw [iI_lt (by omega) (by omega) (by omega) (by omega)]; omega) u⟩
    have eS : bAct (nxA s t z r hr) i (5 * r + how) S = S := by
      unfold bAct
      rw [nxe, ite_f (fun u => by omega)]
    exact K h qa (by rw [eS]; exact A) T
end ALN
