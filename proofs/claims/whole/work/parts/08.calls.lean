theorem rg_n1 {x : Int32} (h : ¬ x < 1) : ¬ x < 0 := by
  rw [Int32.lt_iff_toInt_lt] at h ⊢
  rw [show (1 : Int32).toInt = 1 from by decide] at h
  rw [show (0 : Int32).toInt = 0 from by decide]
  omega
theorem rg_n1' {x : Int32} (h : ¬ x < 1) : ¬ x ≤ 0 := by
  rw [Int32.lt_iff_toInt_lt] at h
  rw [Int32.le_iff_toInt_le]
  rw [show (1 : Int32).toInt = 1 from by decide] at h
  rw [show (0 : Int32).toInt = 0 from by decide]
  omega
theorem rg_65 {x : Int32} : x < 6 ↔ x ≤ 5 := by
  rw [Int32.lt_iff_toInt_lt, Int32.le_iff_toInt_le, show (6 : Int32).toInt = 6 from by decide, show (5 : Int32).toInt = 5 from by decide]
  omega
theorem rg_or5 (A b c d e : Int32) : (((A ||| b) ||| c) ||| d) ||| e = (A ||| ((b ||| c) ||| d)) ||| e := by
  simp only [Int32.or_assoc]
theorem rg_B7 {x : Int32} (h0 : ¬ x < 0) (h : ¬ 7 < x) : rg_B 8 x := rg_Ble (n := 8) (y := 7) ⟨7, by decide, rfl⟩ (by decide) h0 (rg_nl.mp h)
/-- the arrays of a segment after defineSegment -/
theorem rg_SegD {L R1 R2 GC : Nat → Int32} {k : Nat} {l a b : Int32} (hS : rg_Seg L R1 R2 GC) (hl : rg_B 33 l) (ha : rg_B 8 a) (hb : rg_B 8 b) (h : a ≤ b) : rg_Seg (upd L k l) (upd R1 k a) (upd R2 k b) (upd GC k 0) := by
  intro s
  by_cases e : s = k
  · subst e
    rw [pk_us, pk_us, pk_us, pk_us]
    exact ⟨hl, ha, hb, h, rg_B0 (by decide)⟩
  · rw [pk_un e, pk_un e, pk_un e, pk_un e]
    exact hS s
theorem rg_SegG {L R1 R2 GC : Nat → Int32} {k : Nat} {c : Int32} (hS : rg_Seg L R1 R2 GC) (hc : rg_B 5 c) : rg_Seg L R1 R2 (upd GC k c) := by
  intro s
  by_cases e : s = k
  · subst e
    rw [pk_us]
    exact ⟨(hS s).1, (hS s).2.1, (hS s).2.2.1, (hS s).2.2.2.1, hc⟩
  · rw [pk_un e]
    exact hS s
theorem rg_DdD {D L : Nat → Int32} {k : Nat} {l : Int32} (hD : rg_Dd D L) (hl : ¬ l ≤ 0) : rg_Dd (upd D k (vp_nar .boolean 1)) (upd L k l) := by
  intro s
  by_cases e : s = k
  · subst e
    rw [pk_us, pk_us]
    exact ⟨fun z => absurd z (by decide), fun z => absurd z hl⟩
  · rw [pk_un e, pk_un e]
    exact hD s
/-- the relation: the same arrays and registers on both sides, the pointers packed in the class; the counts are equal -/
def i_Rel (_ : Nat) (u : SX) (v : SY) : Prop := ∃ c : Int32, rg_R c c u v
theorem i_up {k : Nat} {u : SX} {v : SY} (h : i_Rel k u v) : i_Rel (k + 5) u v := h
theorem i_vc_peek {k : Nat} {u : SX} {v : SY} (I : i_Rel k u v) (hk : k + 5 ≤ 2563) (v1 : Int32) (v2 : Int32) : wpX_peek (fun r => wpY_peek (fun r' => r' = r ∧ i_Rel (k + 5) u v) v v1 v2) u v1 v2 := by
  obtain ⟨cx, sl, wl, dl, st, fa, ri, si, so, ac, pa, pb, pc, qa, qb, qc, fc, D, L, F, R1, R2, R3, GC, GO, W, FR, H, SC, rfl, rfl, I⟩ := I
  have I0 : i_Rel (k + 5) (sl, wl, dl, st, fa, ri, si, so, ac, rg_P pa pb pc, rg_P qa qb qc, fc, cx, L, F, R1, R2, R3, GC, GO, W, H, SC, FR) (sl, wl, dl, st, fa, ri, si, so, ac, pa, pb, pc, qa, qb, qc, cx, fc, D, L, F, R1, R2, R3, GC, GO, W, FR, H, SC) := ⟨cx, rg_mk I⟩
  obtain ⟨c1, c2, c3, hS, hD, hH, hF, b1, b2, b3, p1, p2, p3, q1, q2, q3⟩ := I
  unfold wpX_peek wpY_peek
  by_cases hw : rg_W sl L v1 v2
  · exact xl_isWord c1 (fun _ => br_f rg_1 ⟨rg_WI c1 hS hw, yl_defined c1 hD (fun hd => br_f rg_1 (br_f hw.2.1 ⟨rg_DI c1 hd, br_t (rg_nle.mp hw.2.2) ⟨rg_WI c1 hS hw, And.intro rfl I0⟩⟩)) (fun hd => absurd hw.1 hd)⟩) (fun z => absurd hw z)
  · exact xl_isWord c1 (fun z => absurd z hw) (fun _ => br_t rfl (yl_defined c1 hD (fun hd => br_f rg_1 (br_c (fun _ => And.intro rfl I0) (fun h0 => ⟨rg_DI c1 hd, br_c (fun h1 => absurd ⟨hd, h0, rg_nle.mpr h1⟩ hw) (fun _ => And.intro rfl I0)⟩))) (fun _ => br_t rfl (And.intro rfl I0))))
theorem i_vc_poke {k : Nat} {u : SX} {v : SY} (I : i_Rel k u v) (hk : k + 5 ≤ 2563) (v1 : Int32) (v2 : Int32) (v3 : Int32) : wpX_poke (fun r u' => wpY_poke (fun r' v' => r' = r ∧ i_Rel (k + 5) u' v') v v1 v2 v3) u v1 v2 v3 := by
  obtain ⟨cx, sl, wl, dl, st, fa, ri, si, so, ac, pa, pb, pc, qa, qb, qc, fc, D, L, F, R1, R2, R3, GC, GO, W, FR, H, SC, rfl, rfl, I⟩ := I
  have I0 : i_Rel (k + 5) (sl, wl, dl, st, fa, ri, si, so, ac, rg_P pa pb pc, rg_P qa qb qc, fc, cx, L, F, R1, R2, R3, GC, GO, W, H, SC, FR) (sl, wl, dl, st, fa, ri, si, so, ac, pa, pb, pc, qa, qb, qc, cx, fc, D, L, F, R1, R2, R3, GC, GO, W, FR, H, SC) := ⟨cx, rg_mk I⟩
  obtain ⟨c1, c2, c3, hS, hD, hH, hF, b1, b2, b3, p1, p2, p3, q1, q2, q3⟩ := I
  unfold wpX_poke wpY_poke
  by_cases hw : rg_W sl L v1 v2
  · have I1 : i_Rel (k + 5) (sl, wl, dl, st, fa, ri, si, so, ac, rg_P pa pb pc, rg_P qa qb qc, fc, cx, L, F, R1, R2, R3, GC, GO, upd W (v1 * 32 + v2).toNatClampNeg v3, H, SC, FR) (sl, wl, dl, st, fa, ri, si, so, ac, pa, pb, pc, qa, qb, qc, cx, fc, D, L, F, R1, R2, R3, GC, GO, upd W (v1 * 32 + v2).toNatClampNeg v3, FR, H, SC) := ⟨cx, rg_mk ⟨c1, c2, c3, hS, hD, hH, hF, b1, b2, b3, p1, p2, p3, q1, q2, q3⟩⟩
    exact xl_isWord c1 (fun _ => br_f rg_1 ⟨rg_WI c1 hS hw, nm_e (yl_defined c1 hD (fun hd => br_f rg_1 (br_f hw.2.1 ⟨rg_DI c1 hd, br_t (rg_nle.mp hw.2.2) ⟨rg_WI c1 hS hw, nm_e (And.intro rfl I1)⟩⟩)) (fun hd => absurd hw.1 hd))⟩) (fun z => absurd hw z)
  · exact xl_isWord c1 (fun z => absurd z hw) (fun _ => br_t rfl (yl_defined c1 hD (fun hd => br_f rg_1 (br_c (fun _ => And.intro rfl I0) (fun h0 => ⟨rg_DI c1 hd, br_c (fun h1 => absurd ⟨hd, h0, rg_nle.mpr h1⟩ hw) (fun _ => And.intro rfl I0)⟩))) (fun _ => br_t rfl (And.intro rfl I0))))
theorem i_vc_addGate {k : Nat} {u : SX} {v : SY} (I : i_Rel k u v) (hk : k + 5 ≤ 2563) (v1 : Int32) (v2 : Int32) : wpX_addGate (fun r u' => wpY_addGate (fun r' v' => r' = r ∧ i_Rel (k + 5) u' v') v v1 v2) u v1 v2 := by
  obtain ⟨cx, sl, wl, dl, st, fa, ri, si, so, ac, pa, pb, pc, qa, qb, qc, fc, D, L, F, R1, R2, R3, GC, GO, W, FR, H, SC, rfl, rfl, I⟩ := I
  have I0 : i_Rel (k + 5) (sl, wl, dl, st, fa, ri, si, so, ac, rg_P pa pb pc, rg_P qa qb qc, fc, cx, L, F, R1, R2, R3, GC, GO, W, H, SC, FR) (sl, wl, dl, st, fa, ri, si, so, ac, pa, pb, pc, qa, qb, qc, cx, fc, D, L, F, R1, R2, R3, GC, GO, W, FR, H, SC) := ⟨cx, rg_mk I⟩
  obtain ⟨c1, c2, c3, hS, hD, hH, hF, b1, b2, b3, p1, p2, p3, q1, q2, q3⟩ := I
  unfold wpX_addGate wpY_addGate
  by_cases hw : rg_W sl L v1 v2
  · have hv := rg_DI c1 hw.1
    have h8 := rg_D8' c1 hw.1
    by_cases h4 : 4 ≤ GC v1.toNatClampNeg
    · exact xl_isWord c1 (fun _ => br_f rg_1 ⟨hv, nm_e (br_t h4 (yl_defined c1 hD (fun hd => br_f rg_1 (br_f hw.2.1 ⟨rg_DI c1 hd, br_t (rg_nle.mp hw.2.2) ⟨hv, br_f (rg_nl.mpr h4) (And.intro rfl I0)⟩⟩)) (fun hd => absurd hw.1 hd)))⟩) (fun z => absurd hw z)
    · by_cases hg : rg_G GC GO v1 v2
      · exact xl_isWord c1 (fun _ => br_f rg_1 ⟨hv, nm_e (br_f h4 (xl_isGate h8 (hS _).2.2.2.2 (fun _ => br_f rg_1 (yl_defined c1 hD (fun hd => br_f rg_1 (br_f hw.2.1 ⟨rg_DI c1 hd, br_t (rg_nle.mp hw.2.2) ⟨hv, br_t (rg_nle.mp h4) (yl_isGate h8 (fun _ => br_f rg_1 (And.intro rfl I0)) (fun z => absurd hg z))⟩⟩)) (fun hd => absurd hw.1 hd))) (fun z => absurd hg z)))⟩) (fun z => absurd hw z)
      · have hc : rg_B 4 (GC v1.toNatClampNeg) := rg_Bl (n := 4) (y := 4) ⟨4, by decide, rfl⟩ (by decide) (rg_Bn (hS _).2.2.2.2 (by decide)) (rg_nle.mp h4)
        have I1 : i_Rel (k + 5) (sl, wl, dl, st, fa, ri, si, so, ac, rg_P pa pb pc, rg_P qa qb qc, fc, cx, L, F, R1, R2, R3, upd GC v1.toNatClampNeg (GC v1.toNatClampNeg + 1), upd GO (v1 * 4 + GC v1.toNatClampNeg).toNatClampNeg v2, W, H, SC, FR) (sl, wl, dl, st, fa, ri, si, so, ac, pa, pb, pc, qa, qb, qc, cx, fc, D, L, F, R1, R2, R3, upd GC v1.toNatClampNeg (GC v1.toNatClampNeg + 1), upd GO (v1 * 4 + GC v1.toNatClampNeg).toNatClampNeg v2, W, FR, H, SC) := ⟨cx, rg_mk ⟨c1, c2, c3, rg_SegG hS (rg_Bs hc), hD, hH, hF, b1, b2, b3, p1, p2, p3, q1, q2, q3⟩⟩
        exact xl_isWord c1 (fun _ => br_f rg_1 ⟨hv, nm_e (br_f h4 (xl_isGate h8 (hS _).2.2.2.2 (fun z => absurd z hg) (fun _ => br_t rfl ⟨rg_i4 h8 hc, nm_e ⟨hv, nm_e (yl_defined c1 hD (fun hd => br_f rg_1 (br_f hw.2.1 ⟨rg_DI c1 hd, br_t (rg_nle.mp hw.2.2) ⟨hv, br_t (rg_nle.mp h4) (yl_isGate h8 (fun z => absurd z hg) (fun _ => br_t rfl ⟨hv, rg_i4 h8 hc, nm_e ⟨hv, hv, nm_e (And.intro rfl I1)⟩⟩))⟩⟩)) (fun hd => absurd hw.1 hd))⟩⟩)))⟩) (fun z => absurd hw z)
  · exact xl_isWord c1 (fun z => absurd z hw) (fun _ => br_t rfl (yl_defined c1 hD (fun hd => br_f rg_1 (br_c (fun _ => And.intro rfl I0) (fun h0 => ⟨rg_DI c1 hd, br_c (fun h1 => absurd ⟨hd, h0, rg_nle.mpr h1⟩ hw) (fun _ => And.intro rfl I0)⟩))) (fun _ => br_t rfl (And.intro rfl I0))))
theorem i_vc_segment {k : Nat} {u : SX} {v : SY} (I : i_Rel k u v) (hk : k + 5 ≤ 2563) (v1 : Int32) : wpX_segment (fun r => wpY_segment (fun r' => r' = r ∧ i_Rel (k + 5) u v) v v1) u v1 := by
  obtain ⟨cx, sl, wl, dl, st, fa, ri, si, so, ac, pa, pb, pc, qa, qb, qc, fc, D, L, F, R1, R2, R3, GC, GO, W, FR, H, SC, rfl, rfl, I⟩ := I
  have I0 : i_Rel (k + 5) (sl, wl, dl, st, fa, ri, si, so, ac, rg_P pa pb pc, rg_P qa qb qc, fc, cx, L, F, R1, R2, R3, GC, GO, W, H, SC, FR) (sl, wl, dl, st, fa, ri, si, so, ac, pa, pb, pc, qa, qb, qc, cx, fc, D, L, F, R1, R2, R3, GC, GO, W, FR, H, SC) := ⟨cx, rg_mk I⟩
  obtain ⟨c1, c2, c3, hS, hD, hH, hF, b1, b2, b3, p1, p2, p3, q1, q2, q3⟩ := I
  unfold wpX_segment wpY_segment
  by_cases hd : rg_D sl L v1
  · have hv := rg_DI c1 hd
    exact xl_isDefined c1 (fun _ => br_f rg_1 ⟨hv, hv, hv, nm_e ⟨hv, hv, hv, yl_defined c1 hD (fun _ => br_f rg_1 ⟨hv, hv, hv, hv, hv, hv, And.intro (rg_or5 _ _ _ _ _) I0⟩) (fun z => absurd hd z)⟩⟩) (fun z => absurd hd z)
  · exact xl_isDefined c1 (fun z => absurd z hd) (fun _ => br_t rfl (yl_defined c1 hD (fun z => absurd z hd) (fun _ => br_t rfl (And.intro rfl I0))))
theorem i_vc_gate {k : Nat} {u : SX} {v : SY} (I : i_Rel k u v) (hk : k + 5 ≤ 2563) (v1 : Int32) (v2 : Int32) : wpX_gate (fun r => wpY_gate (fun r' => r' = r ∧ i_Rel (k + 5) u v) v v1 v2) u v1 v2 := by
  obtain ⟨cx, sl, wl, dl, st, fa, ri, si, so, ac, pa, pb, pc, qa, qb, qc, fc, D, L, F, R1, R2, R3, GC, GO, W, FR, H, SC, rfl, rfl, I⟩ := I
  have I0 : i_Rel (k + 5) (sl, wl, dl, st, fa, ri, si, so, ac, rg_P pa pb pc, rg_P qa qb qc, fc, cx, L, F, R1, R2, R3, GC, GO, W, H, SC, FR) (sl, wl, dl, st, fa, ri, si, so, ac, pa, pb, pc, qa, qb, qc, cx, fc, D, L, F, R1, R2, R3, GC, GO, W, FR, H, SC) := ⟨cx, rg_mk I⟩
  obtain ⟨c1, c2, c3, hS, hD, hH, hF, b1, b2, b3, p1, p2, p3, q1, q2, q3⟩ := I
  unfold wpX_gate wpY_gate
  by_cases hd : rg_D sl L v1
  · have hv := rg_DI c1 hd
    by_cases h0 : v2 < 0
    · exact xl_isDefined c1 (fun _ => br_f rg_1 (br_t h0 (yl_defined c1 hD (fun _ => br_f rg_1 (br_t h0 (And.intro rfl I0))) (fun z => absurd hd z)))) (fun z => absurd hd z)
    · by_cases h1 : v2 < GC v1.toNatClampNeg
      · have hi := rg_i4 (rg_D8' c1 hd) (rg_Bl (n := 4) (hS v1.toNatClampNeg).2.2.2.2 (by decide) h0 h1)
        exact xl_isDefined c1 (fun _ => br_f rg_1 (br_f h0 ⟨hv, br_t h1 ⟨hi, yl_defined c1 hD (fun _ => br_f rg_1 (br_f h0 ⟨hv, br_t h1 ⟨hi, And.intro rfl I0⟩⟩)) (fun z => absurd hd z)⟩⟩)) (fun z => absurd hd z)
      · exact xl_isDefined c1 (fun _ => br_f rg_1 (br_f h0 ⟨hv, br_f h1 (yl_defined c1 hD (fun _ => br_f rg_1 (br_f h0 ⟨hv, br_f h1 (And.intro rfl I0)⟩)) (fun z => absurd hd z))⟩)) (fun z => absurd hd z)
  · exact xl_isDefined c1 (fun z => absurd z hd) (fun _ => br_t rfl (yl_defined c1 hD (fun z => absurd z hd) (fun _ => br_t rfl (And.intro rfl I0))))
theorem i_vc_access {k : Nat} {u : SX} {v : SY} (I : i_Rel k u v) (hk : k + 5 ≤ 2563) (v1 : Int32) (v2 : Int32) (v3 : Int32) (v4 : Int32) : wpX_access (fun r => wpY_access (fun r' => r' = r ∧ i_Rel (k + 5) u v) v v1 v2 v3 v4) u v1 v2 v3 v4 := by
  obtain ⟨cx, sl, wl, dl, st, fa, ri, si, so, ac, pa, pb, pc, qa, qb, qc, fc, D, L, F, R1, R2, R3, GC, GO, W, FR, H, SC, rfl, rfl, I⟩ := I
  have I0 : i_Rel (k + 5) (sl, wl, dl, st, fa, ri, si, so, ac, rg_P pa pb pc, rg_P qa qb qc, fc, cx, L, F, R1, R2, R3, GC, GO, W, H, SC, FR) (sl, wl, dl, st, fa, ri, si, so, ac, pa, pb, pc, qa, qb, qc, cx, fc, D, L, F, R1, R2, R3, GC, GO, W, FR, H, SC) := ⟨cx, rg_mk I⟩
  obtain ⟨c1, c2, c3, hS, hD, hH, hF, b1, b2, b3, p1, p2, p3, q1, q2, q3⟩ := I
  unfold wpX_access
  by_cases h0 : v3 < 0
  · exact xl_isRing (fun z => absurd h0 z) (fun _ => br_t rfl (br_t h0 (And.intro rfl I0)))
  by_cases h7 : 7 < v3
  · exact xl_isRing (fun _ z => absurd h7 z) (fun _ => br_t rfl (br_f h0 (br_f (rg_nle.mpr h7) (And.intro rfl I0))))
  have h7' : v3 ≤ 7 := rg_nl.mp h7
  by_cases hw : rg_W sl L v1 v2
  · by_cases k0 : v4 < 0
    · exact xl_isRing (fun _ _ => br_f rg_1 (xl_isWord c1 (fun _ => br_f rg_1 (br_t k0 (br_f h0 (br_t h7' (br_t k0 (And.intro rfl I0)))))) (fun z => absurd hw z))) (fun z => absurd ⟨h0, h7⟩ z)
    by_cases k3 : 3 < v4
    · exact xl_isRing (fun _ _ => br_f rg_1 (xl_isWord c1 (fun _ => br_f rg_1 (br_f k0 (br_t k3 (br_f h0 (br_t h7' (br_f k0 (br_f (rg_nle.mpr k3) (And.intro rfl I0)))))))) (fun z => absurd hw z))) (fun z => absurd ⟨h0, h7⟩ z)
    have hv := rg_DI c1 hw.1
    have h8 := rg_D8' c1 hw.1
    have hk : v4 = 0 ∨ v4 = 1 ∨ v4 = 2 ∨ v4 = 3 := by
      obtain ⟨j, hj, rfl⟩ := rg_Ble (n := 4) (y := 3) ⟨3, by decide, rfl⟩ (by decide) k0 (rg_nl.mp k3)
      have hc : j = 0 ∨ j = 1 ∨ j = 2 ∨ j = 3 := by omega
      rcases hc with rfl | rfl | rfl | rfl
      · exact Or.inl rfl
      · exact Or.inr (Or.inl rfl)
      · exact Or.inr (Or.inr (Or.inl rfl))
      · exact Or.inr (Or.inr (Or.inr rfl))
    refine xl_isRing (fun _ _ => br_f rg_1 (xl_isWord c1 (fun _ => br_f rg_1 (br_f k0 (br_f k3 ?_))) (fun z => absurd hw z))) (fun z => absurd ⟨h0, h7⟩ z)
    rcases hk with rfl | rfl | rfl | rfl
    · by_cases hm : rg_MR F R2 v1 v3
      · exact br_t rfl (xl_mayRead hv (fun _ => And.intro rfl (br_f h0 (br_t h7' (br_f k0 (br_t (rg_nl.mp k3) (yl_rule0 c1 hD hw (fun _ => And.intro rfl (And.intro rfl I0)) (fun z => absurd hm z))))))) (fun z => absurd hm z))
      · exact br_t rfl (xl_mayRead hv (fun z => absurd z hm) (fun _ => And.intro rfl (br_f h0 (br_t h7' (br_f k0 (br_t (rg_nl.mp k3) (yl_rule0 c1 hD hw (fun z => absurd z hm) (fun _ => And.intro rfl (And.intro rfl I0)))))))))
    · by_cases hm : rg_MW F R1 v1 v3
      · exact br_f (by decide) (br_t rfl (xl_mayWrite hv (fun _ => And.intro rfl (br_f h0 (br_t h7' (br_f k0 (br_t (rg_nl.mp k3) (yl_rule1 c1 hD hw (fun _ => And.intro rfl (And.intro rfl I0)) (fun z => absurd hm z))))))) (fun z => absurd hm z)))
      · exact br_f (by decide) (br_t rfl (xl_mayWrite hv (fun z => absurd z hm) (fun _ => And.intro rfl (br_f h0 (br_t h7' (br_f k0 (br_t (rg_nl.mp k3) (yl_rule1 c1 hD hw (fun z => absurd z hm) (fun _ => And.intro rfl (And.intro rfl I0))))))))))
    · by_cases hm : rg_MX F R1 R2 v1 v3
      · exact br_f (by decide) (br_f (by decide) (br_t rfl (xl_mayExecute hv (fun _ => And.intro rfl (br_f h0 (br_t h7' (br_f k0 (br_t (rg_nl.mp k3) (yl_rule2 c1 hD hw (fun _ => And.intro rfl (And.intro rfl I0)) (fun z => absurd hm z))))))) (fun z => absurd hm z))))
      · exact br_f (by decide) (br_f (by decide) (br_t rfl (xl_mayExecute hv (fun z => absurd z hm) (fun _ => And.intro rfl (br_f h0 (br_t h7' (br_f k0 (br_t (rg_nl.mp k3) (yl_rule2 c1 hD hw (fun z => absurd z hm) (fun _ => And.intro rfl (And.intro rfl I0)))))))))))
    · refine br_f (by decide) (br_f (by decide) (br_f (by decide) (br_t rfl ?_)))
      by_cases hm : rg_MC F R3 v1 v3
      · by_cases hr : v3 ≤ R2 v1.toNatClampNeg
        · exact xl_isCallable hv (fun _ => br_f rg_1 ⟨hv, br_t hr (br_f h0 (br_t h7' (br_f k0 (br_t (rg_nl.mp k3) (yl_rule3 c1 hD hw (fun _ _ => And.intro rfl (And.intro rfl I0)) (fun z => absurd ⟨hm, Or.inl hr⟩ z))))))⟩) (fun z => absurd hm z)
        · by_cases hg : rg_G GC GO v1 v2
          · exact xl_isCallable hv (fun _ => br_f rg_1 ⟨hv, br_f hr (xl_isGate h8 (hS _).2.2.2.2 (fun _ => br_f rg_1 (br_f h0 (br_t h7' (br_f k0 (br_t (rg_nl.mp k3) (yl_rule3 c1 hD hw (fun _ _ => And.intro rfl (And.intro rfl I0)) (fun z => absurd ⟨hm, Or.inr hg⟩ z))))))) (fun z => absurd hg z))⟩) (fun z => absurd hm z)
          · exact xl_isCallable hv (fun _ => br_f rg_1 ⟨hv, br_f hr (xl_isGate h8 (hS _).2.2.2.2 (fun z => absurd z hg) (fun _ => br_t rfl (br_f h0 (br_t h7' (br_f k0 (br_t (rg_nl.mp k3) (yl_rule3 c1 hD hw (fun _ z => absurd z (fun t => t.elim hr hg)) (fun _ => And.intro rfl (And.intro rfl I0)))))))))⟩) (fun z => absurd hm z)
      · exact xl_isCallable hv (fun z => absurd z hm) (fun _ => br_t rfl (br_f h0 (br_t h7' (br_f k0 (br_t (rg_nl.mp k3) (yl_rule3 c1 hD hw (fun z => absurd z hm) (fun _ => And.intro rfl (And.intro rfl I0))))))))
  · refine xl_isRing (fun _ _ => br_f rg_1 (xl_isWord c1 (fun z => absurd z hw) (fun _ => br_t rfl (br_f h0 (br_t h7' ?_))))) (fun z => absurd ⟨h0, h7⟩ z)
    by_cases k0 : v4 < 0
    · exact br_t k0 (And.intro rfl I0)
    by_cases k3 : v4 ≤ 3
    · exact br_f k0 (br_t k3 (yl_ruleF c1 hD hw (And.intro rfl (And.intro rfl I0))))
    · exact br_f k0 (br_f k3 (And.intro rfl I0))
