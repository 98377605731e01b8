/-- what holds of a state of the class -/
def pj_I (sl wl dl ri si so pa pb pc qa qb qc fc : Int32) (L F R1 R2 R3 GC H FR : Nat → Int32) : Prop :=
  rg_B 9 sl ∧ rg_B 33 wl ∧ rg_B 17 dl ∧ rg_Seg L R1 R2 GC ∧ (∀ s, rg_B 8 (F s) ∧ rg_B 8 (R3 s)) ∧ rg_Hs H ∧ rg_Fs fc FR ∧ rg_B 8 ri ∧ rg_B 8 si ∧ rg_B 256 so ∧ rg_B 256 pa ∧ rg_B 256 pb ∧ rg_B 8 pc ∧ rg_B 256 qa ∧ rg_B 256 qb ∧ rg_B 8 qc
def pj_V (u : St2) : Prop := ∃ (sl wl dl st fa ri si so ac pa pb pc qa qb qc fc cx : Int32) (L F R1 R2 R3 GC GO W H SC FR : Nat → Int32), u = (sl, wl, dl, st, fa, ri, si, so, ac, rg_P pa pb pc, rg_P qa qb qc, fc, cx, L, F, R1, R2, R3, GC, GO, W, H, SC, FR) ∧ pj_I sl wl dl ri si so pa pb pc qa qb qc fc L F R1 R2 R3 GC H FR
theorem rg_n1 {x : Int32} (h : ¬ x < 1) : ¬ x < 0 := by
  rw [Int32.lt_iff_toInt_lt] at h ⊢
  rw [show (1 : Int32).toInt = 1 from by decide] at h
  rw [show (0 : Int32).toInt = 0 from by decide]
  omega
theorem rg_n1' {x : Int32} (h : ¬ x < 1) : ¬ x ≤ 0 := by
  rw [Int32.lt_iff_toInt_lt] at h
  rw [Int32.le_iff_toInt_le]
  rw [show (1 : Int32).toInt = 1 from by decide] at h
  rw [show (0 : Int32).toInt = 0 from by decide]
  omega
theorem rg_65 {x : Int32} : x < 6 ↔ x ≤ 5 := by
  rw [Int32.lt_iff_toInt_lt, Int32.le_iff_toInt_le, show (6 : Int32).toInt = 6 from by decide, show (5 : Int32).toInt = 5 from by decide]
  omega
theorem rg_B7 {x : Int32} (h0 : ¬ x < 0) (h : ¬ 7 < x) : rg_B 8 x := rg_Ble (n := 8) (y := 7) ⟨7, by decide, rfl⟩ (by decide) h0 (rg_nl.mp h)
theorem rg_SegD {L R1 R2 GC : Nat → Int32} {k : Nat} {l a b : Int32} (hS : rg_Seg L R1 R2 GC) (hl : rg_B 33 l) (ha : rg_B 8 a) (hb : rg_B 8 b) (h : a ≤ b) : rg_Seg (upd L k l) (upd R1 k a) (upd R2 k b) (upd GC k 0) := by
  intro s
  by_cases e : s = k
  · subst e
    rw [pk_us, pk_us, pk_us, pk_us]
    exact ⟨hl, ha, hb, h, rg_B0 (by decide)⟩
  · rw [pk_un e, pk_un e, pk_un e, pk_un e]
    exact hS s
theorem rg_SegG {L R1 R2 GC : Nat → Int32} {k : Nat} {c : Int32} (hS : rg_Seg L R1 R2 GC) (hc : rg_B 5 c) : rg_Seg L R1 R2 (upd GC k c) := by
  intro s
  by_cases e : s = k
  · subst e
    rw [pk_us]
    exact ⟨(hS s).1, (hS s).2.1, (hS s).2.2.1, (hS s).2.2.2.1, hc⟩
  · rw [pk_un e]
    exact hS s
theorem rg_cB {x : Int32} (a b n : Nat) (h : a ≤ b) (hb : b < n) (hn : n < 2 ^ 30) : rg_B n (if nI a ≤ x then (if x ≤ nI b then x else nI b) else nI a) := by
  by_cases h1 : nI a ≤ x
  · rw [if_pos h1]
    by_cases h2 : x ≤ nI b
    · rw [if_pos h2]
      refine rg_Ble (y := nI b) ⟨b, hb, rfl⟩ hn ?_ h2
      exact rg_nl.mpr (Int32.le_trans (nI_pos' (by omega)) h1)
    · rw [if_neg h2]
      exact ⟨b, hb, rfl⟩
  · rw [if_neg h1]
    exact ⟨a, by omega, rfl⟩
theorem rg_P0 : rg_P 0 0 0 = 0 := by decide
theorem rg_Fs0 {FR : Nat → Int32} : rg_Fs 0 FR := ⟨0, by decide, rfl, fun f hf => absurd hf (Nat.not_lt_zero f)⟩
theorem rg_so {L R1 R2 GC : Nat → Int32} {so : Int32} {k : Nat} (hS : rg_Seg L R1 R2 GC) (b3 : rg_B 256 so) (h : ¬ L k ≤ so) : rg_B 256 (so + 1) :=
  rg_Bm (rg_Bs (rg_O32 hS k (rg_Bn b3 (by decide)) h)) (by decide)
theorem rg_Pm {a b c : Int32} (ha : rg_B 256 a) (hb : rg_B 256 b) (hc : rg_B 8 c) : rg_Pt (rg_P a b c) := ⟨a, b, c, ha, hb, hc, rfl⟩
theorem rg_FsC {fc dl si so ri fl P Q n : Int32} {FR : Nat → Int32} (hF : rg_Fs fc FR) (c3 : rg_B 17 dl) (h : fc < dl) (b2 : rg_B 8 si) (b3 : rg_B 32 so) (b1 : rg_B 8 ri) (hfl : rg_B 17 fl) (hP : rg_Pt P) (hQ : rg_Pt Q) : rg_Fs (fc + 1) (rg_fr FR (fc * 6) (si * 256 + so + 1) ri fl P Q n) := by
  obtain ⟨f, hf, rfl, hA⟩ := hF
  have h16 : f < 16 := by
    obtain ⟨d, hd, rfl⟩ := c3
    rw [nI_ltI (by omega) (by omega)] at h
    omega
  refine ⟨f + 1, by omega, nI_1 f, ?_⟩
  have e0 : (nI f * 6 + 0).toNatClampNeg = f * 6 + 0 := rg_c6 (o := 0) h16 (by decide)
  have e1 : (nI f * 6 + 1).toNatClampNeg = f * 6 + 1 := rg_c6 (o := 1) h16 (by decide)
  have e2 : (nI f * 6 + 2).toNatClampNeg = f * 6 + 2 := rg_c6 (o := 2) h16 (by decide)
  have e3 : (nI f * 6 + 3).toNatClampNeg = f * 6 + 3 := rg_c6 (o := 3) h16 (by decide)
  have e4 : (nI f * 6 + 4).toNatClampNeg = f * 6 + 4 := rg_c6 (o := 4) h16 (by decide)
  have e5 : (nI f * 6 + 5).toNatClampNeg = f * 6 + 5 := rg_c6 (o := 5) h16 (by decide)
  unfold rg_fr
  rw [e0, e1, e2, e3, e4, e5]
  intro g hg
  by_cases eg : g = f
  · subst eg
    refine ⟨⟨si, so + 1, b2, rg_Bm (rg_Bs b3) (by decide), ?_⟩, ?_, ?_, ?_, ?_⟩
    · rw [pk_un (by omega), pk_un (by omega), pk_un (by omega), pk_un (by omega), pk_un (by omega), Nat.add_zero, pk_us]
      exact Int32.add_assoc _ _ _
    · rw [pk_un (by omega), pk_un (by omega), pk_un (by omega), pk_un (by omega), pk_us]; exact b1
    · rw [pk_un (by omega), pk_un (by omega), pk_un (by omega), pk_us]; exact hfl
    · rw [pk_un (by omega), pk_un (by omega), pk_us]; exact hP
    · rw [pk_un (by omega), pk_us]; exact hQ
  · have hlt : g < f := by omega
    have hk : ∀ m, m < f * 6 → upd (upd (upd (upd (upd (upd FR (f * 6 + 0) (si * 256 + so + 1)) (f * 6 + 1) ri) (f * 6 + 2) fl) (f * 6 + 3) P) (f * 6 + 4) Q) (f * 6 + 5) n m = FR m := by
      intro m hm
      rw [pk_un (by omega), pk_un (by omega), pk_un (by omega), pk_un (by omega), pk_un (by omega), pk_un (by omega)]
    have h6 := hA g hlt
    unfold rg_F6 at h6 ⊢
    rw [hk (g * 6) (by omega), hk (g * 6 + 1) (by omega), hk (g * 6 + 2) (by omega), hk (g * 6 + 3) (by omega), hk (g * 6 + 4) (by omega)]
    exact h6
theorem rg_FsR {fc : Int32} {FR : Nat → Int32} (hF : rg_Fs fc FR) (h : ¬ fc = 0) : rg_Fs (fc - 1) FR := by
  obtain ⟨f, hf, e1, e2, _, _, hg⟩ := rg_fB hF h
  exact ⟨f, by omega, e2, hg⟩
section
variable {sl wl dl st fa ri si so ac pa pb pc qa qb qc fc cx : Int32} {L F R1 R2 R3 GC GO W H SC FR : Nat → Int32}
theorem pj_mk (h : pj_I sl wl dl ri si so pa pb pc qa qb qc fc L F R1 R2 R3 GC H FR) : pj_V (sl, wl, dl, st, fa, ri, si, so, ac, rg_P pa pb pc, rg_P qa qb qc, fc, cx, L, F, R1, R2, R3, GC, GO, W, H, SC, FR) := ⟨sl, wl, dl, st, fa, ri, si, so, ac, pa, pb, pc, qa, qb, qc, fc, cx, L, F, R1, R2, R3, GC, GO, W, H, SC, FR, rfl, h⟩
end
theorem dt_state {u : St2} (V : pj_V u) (v1 : Int32) : ∃ r : Int32, ∀ q : Int32 → Prop, q r → wpX_state q u v1 := by
  obtain ⟨sl, wl, dl, st, fa, ri, si, so, ac, pa, pb, pc, qa, qb, qc, fc, cx, L, F, R1, R2, R3, GC, GO, W, H, SC, FR, rfl, I⟩ := V
  have V : pj_V (sl, wl, dl, st, fa, ri, si, so, ac, rg_P pa pb pc, rg_P qa qb qc, fc, cx, L, F, R1, R2, R3, GC, GO, W, H, SC, FR) := pj_mk I
  obtain ⟨c1, c2, c3, hS, hA, hH, hF, b1, b2, b3, p1, p2, p3, q1, q2, q3⟩ := I
  by_cases a0 : v1 < 0
  · exact ⟨0, fun q h => br_t a0 h⟩
  by_cases a1 : 8 < v1
  · exact ⟨0, fun q h => br_f a0 (br_t a1 h)⟩
  obtain ⟨j, hj, rfl⟩ := rg_Ble (n := 9) (y := 8) ⟨8, by decide, rfl⟩ (by decide) a0 (rg_nl.mp a1)
  have hc : j = 0 ∨ j = 1 ∨ j = 2 ∨ j = 3 ∨ j = 4 ∨ j = 5 ∨ j = 6 ∨ j = 7 ∨ j = 8 := by omega
  rcases hc with rfl | rfl | rfl | rfl | rfl | rfl | rfl | rfl | rfl
  · exact ⟨st, fun q h => br_f a0 (br_f a1 (br_t rfl h))⟩
  · exact ⟨fa, fun q h => br_f a0 (br_f a1 (br_f (by decide) (br_t rfl h)))⟩
  · exact ⟨ri, fun q h => br_f a0 (br_f a1 (br_f (by decide) (br_f (by decide) (br_t rfl h))))⟩
  · exact ⟨si * 256 + so, fun q h => br_f a0 (br_f a1 (br_f (by decide) (br_f (by decide) (br_f (by decide) (br_t rfl h)))))⟩
  · exact ⟨ac, fun q h => br_f a0 (br_f a1 (br_f (by decide) (br_f (by decide) (br_f (by decide) (br_f (by decide) (br_t rfl h))))))⟩
  · exact ⟨rg_P pa pb pc, fun q h => br_f a0 (br_f a1 (br_f (by decide) (br_f (by decide) (br_f (by decide) (br_f (by decide) (br_f (by decide) (br_t rfl h)))))))⟩
  · exact ⟨rg_P qa qb qc, fun q h => br_f a0 (br_f a1 (br_f (by decide) (br_f (by decide) (br_f (by decide) (br_f (by decide) (br_f (by decide) (br_f (by decide) (br_t rfl h))))))))⟩
  · exact ⟨fc, fun q h => br_f a0 (br_f a1 (br_f (by decide) (br_f (by decide) (br_f (by decide) (br_f (by decide) (br_f (by decide) (br_f (by decide) (br_f (by decide) (br_t rfl h)))))))))⟩
  · exact ⟨cx, fun q h => br_f a0 (br_f a1 (br_f (by decide) (br_f (by decide) (br_f (by decide) (br_f (by decide) (br_f (by decide) (br_f (by decide) (br_f (by decide) (br_f (by decide) (br_t rfl h))))))))))⟩
theorem dt_frame {u : St2} (V : pj_V u) (v1 v2 : Int32) : ∃ r : Int32, ∀ q : Int32 → Prop, q r → wpX_frame q u v1 v2 := by
  obtain ⟨sl, wl, dl, st, fa, ri, si, so, ac, pa, pb, pc, qa, qb, qc, fc, cx, L, F, R1, R2, R3, GC, GO, W, H, SC, FR, rfl, I⟩ := V
  have V : pj_V (sl, wl, dl, st, fa, ri, si, so, ac, rg_P pa pb pc, rg_P qa qb qc, fc, cx, L, F, R1, R2, R3, GC, GO, W, H, SC, FR) := pj_mk I
  obtain ⟨c1, c2, c3, hS, hA, hH, hF, b1, b2, b3, p1, p2, p3, q1, q2, q3⟩ := I
  by_cases a0 : v1 < 0
  · exact ⟨-1, fun q h => br_t a0 h⟩
  by_cases a1 : fc ≤ v1
  · exact ⟨-1, fun q h => br_f a0 (br_t a1 h)⟩
  by_cases a2 : v2 < 0
  · exact ⟨-1, fun q h => br_f a0 (br_f a1 (br_t a2 h))⟩
  by_cases a3 : v2 < 6
  · have hf : rg_B 17 fc := by
      obtain ⟨n, hn, e, _⟩ := hF
      exact ⟨n, hn, e⟩
    have hi := rg_i6 (rg_Bl (n := 16) hf (by decide) a0 (rg_nle.mp a1)) (rg_Bl (n := 6) (y := 6) ⟨6, by decide, rfl⟩ (by decide) a2 a3)
    exact ⟨FR (v1 * 6 + v2).toNatClampNeg, fun q h => br_f a0 (br_f a1 (br_f a2 (br_t a3 ⟨hi, h⟩)))⟩
  · exact ⟨-1, fun q h => br_f a0 (br_f a1 (br_f a2 (br_f a3 h)))⟩
theorem dt_stackHeight {u : St2} (V : pj_V u) (v1 : Int32) : ∃ r : Int32, ∀ q : Int32 → Prop, q r → wpX_stackHeight q u v1 := by
  obtain ⟨sl, wl, dl, st, fa, ri, si, so, ac, pa, pb, pc, qa, qb, qc, fc, cx, L, F, R1, R2, R3, GC, GO, W, H, SC, FR, rfl, I⟩ := V
  have V : pj_V (sl, wl, dl, st, fa, ri, si, so, ac, rg_P pa pb pc, rg_P qa qb qc, fc, cx, L, F, R1, R2, R3, GC, GO, W, H, SC, FR) := pj_mk I
  obtain ⟨c1, c2, c3, hS, hA, hH, hF, b1, b2, b3, p1, p2, p3, q1, q2, q3⟩ := I
  unfold wpX_stackHeight
  by_cases a0 : v1 < 0
  · exact ⟨-1, fun q h => xl_isRing (fun z => absurd a0 z) (fun _ => br_t rfl h)⟩
  by_cases a1 : 7 < v1
  · exact ⟨-1, fun q h => xl_isRing (fun _ z => absurd a1 z) (fun _ => br_t rfl h)⟩
  exact ⟨H v1.toNatClampNeg, fun q h => xl_isRing (fun _ _ => br_f rg_1 ⟨rg_Bin (rg_B7 a0 a1) (by decide), h⟩) (fun z => absurd ⟨a0, a1⟩ z)⟩
theorem dt_stackValue {u : St2} (V : pj_V u) (v1 v2 : Int32) : ∃ r : Int32, ∀ q : Int32 → Prop, q r → wpX_stackValue q u v1 v2 := by
  obtain ⟨sl, wl, dl, st, fa, ri, si, so, ac, pa, pb, pc, qa, qb, qc, fc, cx, L, F, R1, R2, R3, GC, GO, W, H, SC, FR, rfl, I⟩ := V
  have V : pj_V (sl, wl, dl, st, fa, ri, si, so, ac, rg_P pa pb pc, rg_P qa qb qc, fc, cx, L, F, R1, R2, R3, GC, GO, W, H, SC, FR) := pj_mk I
  obtain ⟨c1, c2, c3, hS, hA, hH, hF, b1, b2, b3, p1, p2, p3, q1, q2, q3⟩ := I
  unfold wpX_stackValue
  by_cases a0 : v1 < 0
  · exact ⟨0, fun q h => xl_isRing (fun z => absurd a0 z) (fun _ => br_t rfl h)⟩
  by_cases a1 : 7 < v1
  · exact ⟨0, fun q h => xl_isRing (fun _ z => absurd a1 z) (fun _ => br_t rfl h)⟩
  have h8 := rg_B7 a0 a1
  have hv := rg_Bin h8 (by decide)
  by_cases a2 : v2 < 0
  · exact ⟨0, fun q h => xl_isRing (fun _ _ => br_f rg_1 (br_t a2 h)) (fun z => absurd ⟨a0, a1⟩ z)⟩
  by_cases a3 : v2 < H v1.toNatClampNeg
  · have hi := rg_i16 h8 (rg_Bl (n := 16) (hH v1.toNatClampNeg) (by decide) a2 a3)
    exact ⟨SC (v1 * 16 + v2).toNatClampNeg, fun q h => xl_isRing (fun _ _ => br_f rg_1 (br_f a2 ⟨hv, br_t a3 ⟨hi, h⟩⟩)) (fun z => absurd ⟨a0, a1⟩ z)⟩
  · exact ⟨0, fun q h => xl_isRing (fun _ _ => br_f rg_1 (br_f a2 ⟨hv, br_f a3 h⟩)) (fun z => absurd ⟨a0, a1⟩ z)⟩
theorem dt_peek {u : St2} (V : pj_V u) (v1 v2 : Int32) : ∃ r : Int32, ∀ q : Int32 → Prop, q r → wpX_peek q u v1 v2 := by
  obtain ⟨sl, wl, dl, st, fa, ri, si, so, ac, pa, pb, pc, qa, qb, qc, fc, cx, L, F, R1, R2, R3, GC, GO, W, H, SC, FR, rfl, I⟩ := V
  have V : pj_V (sl, wl, dl, st, fa, ri, si, so, ac, rg_P pa pb pc, rg_P qa qb qc, fc, cx, L, F, R1, R2, R3, GC, GO, W, H, SC, FR) := pj_mk I
  obtain ⟨c1, c2, c3, hS, hA, hH, hF, b1, b2, b3, p1, p2, p3, q1, q2, q3⟩ := I
  unfold wpX_peek
  by_cases hw : rg_W sl L v1 v2
  · exact ⟨W (v1 * 32 + v2).toNatClampNeg, fun q h => xl_isWord c1 (fun _ => br_f rg_1 ⟨rg_WI c1 hS hw, h⟩) (fun z => absurd hw z)⟩
  · exact ⟨0, fun q h => xl_isWord c1 (fun z => absurd z hw) (fun _ => br_t rfl h)⟩
theorem mo_poke {u : St2} (V : pj_V u) (v1 v2 v3 : Int32) : ∃ (r : Int32) (u' : St2), pj_V u' ∧ ∀ q : Int32 → St2 → Prop, q r u' → wpX_poke q u v1 v2 v3 := by
  obtain ⟨sl, wl, dl, st, fa, ri, si, so, ac, pa, pb, pc, qa, qb, qc, fc, cx, L, F, R1, R2, R3, GC, GO, W, H, SC, FR, rfl, I⟩ := V
  have V : pj_V (sl, wl, dl, st, fa, ri, si, so, ac, rg_P pa pb pc, rg_P qa qb qc, fc, cx, L, F, R1, R2, R3, GC, GO, W, H, SC, FR) := pj_mk I
  obtain ⟨c1, c2, c3, hS, hA, hH, hF, b1, b2, b3, p1, p2, p3, q1, q2, q3⟩ := I
  unfold wpX_poke
  by_cases hw : rg_W sl L v1 v2
  · exact ⟨1, (sl, wl, dl, st, fa, ri, si, so, ac, rg_P pa pb pc, rg_P qa qb qc, fc, cx, L, F, R1, R2, R3, GC, GO, upd W (v1 * 32 + v2).toNatClampNeg v3, H, SC, FR), pj_mk ⟨c1, c2, c3, hS, hA, hH, hF, b1, b2, b3, p1, p2, p3, q1, q2, q3⟩, fun q h => xl_isWord c1 (fun _ => br_f rg_1 ⟨rg_WI c1 hS hw, nm_e h⟩) (fun z => absurd hw z)⟩
  · exact ⟨0, (sl, wl, dl, st, fa, ri, si, so, ac, rg_P pa pb pc, rg_P qa qb qc, fc, cx, L, F, R1, R2, R3, GC, GO, W, H, SC, FR), V, fun q h => xl_isWord c1 (fun z => absurd z hw) (fun _ => br_t rfl h)⟩
theorem mo_addGate {u : St2} (V : pj_V u) (v1 v2 : Int32) : ∃ (r : Int32) (u' : St2), pj_V u' ∧ ∀ q : Int32 → St2 → Prop, q r u' → wpX_addGate q u v1 v2 := by
  obtain ⟨sl, wl, dl, st, fa, ri, si, so, ac, pa, pb, pc, qa, qb, qc, fc, cx, L, F, R1, R2, R3, GC, GO, W, H, SC, FR, rfl, I⟩ := V
  have V : pj_V (sl, wl, dl, st, fa, ri, si, so, ac, rg_P pa pb pc, rg_P qa qb qc, fc, cx, L, F, R1, R2, R3, GC, GO, W, H, SC, FR) := pj_mk I
  obtain ⟨c1, c2, c3, hS, hA, hH, hF, b1, b2, b3, p1, p2, p3, q1, q2, q3⟩ := I
  unfold wpX_addGate
  by_cases hw : rg_W sl L v1 v2
  · have hv := rg_DI c1 hw.1
    have h8 := rg_D8' c1 hw.1
    by_cases h4 : 4 ≤ GC v1.toNatClampNeg
    · exact ⟨0, (sl, wl, dl, st, fa, ri, si, so, ac, rg_P pa pb pc, rg_P qa qb qc, fc, cx, L, F, R1, R2, R3, GC, GO, W, H, SC, FR), V, fun q h => xl_isWord c1 (fun _ => br_f rg_1 ⟨hv, nm_e (br_t h4 h)⟩) (fun z => absurd hw z)⟩
    · by_cases hg : rg_G GC GO v1 v2
      · exact ⟨0, (sl, wl, dl, st, fa, ri, si, so, ac, rg_P pa pb pc, rg_P qa qb qc, fc, cx, L, F, R1, R2, R3, GC, GO, W, H, SC, FR), V, fun q h => xl_isWord c1 (fun _ => br_f rg_1 ⟨hv, nm_e (br_f h4 (xl_isGate h8 (hS _).2.2.2.2 (fun _ => br_f rg_1 h) (fun z => absurd hg z)))⟩) (fun z => absurd hw z)⟩
      · have hc : rg_B 4 (GC v1.toNatClampNeg) := rg_Bl (n := 4) (y := 4) ⟨4, by decide, rfl⟩ (by decide) (rg_Bn (hS _).2.2.2.2 (by decide)) (rg_nle.mp h4)
        exact ⟨1, (sl, wl, dl, st, fa, ri, si, so, ac, rg_P pa pb pc, rg_P qa qb qc, fc, cx, L, F, R1, R2, R3, upd GC v1.toNatClampNeg (GC v1.toNatClampNeg + 1), upd GO (v1 * 4 + GC v1.toNatClampNeg).toNatClampNeg v2, W, H, SC, FR), pj_mk ⟨c1, c2, c3, rg_SegG hS (rg_Bs hc), hA, hH, hF, b1, b2, b3, p1, p2, p3, q1, q2, q3⟩, fun q h => xl_isWord c1 (fun _ => br_f rg_1 ⟨hv, nm_e (br_f h4 (xl_isGate h8 (hS _).2.2.2.2 (fun z => absurd z hg) (fun _ => br_t rfl ⟨rg_i4 h8 hc, nm_e ⟨hv, nm_e h⟩⟩)))⟩) (fun z => absurd hw z)⟩
  · exact ⟨0, (sl, wl, dl, st, fa, ri, si, so, ac, rg_P pa pb pc, rg_P qa qb qc, fc, cx, L, F, R1, R2, R3, GC, GO, W, H, SC, FR), V, fun q h => xl_isWord c1 (fun z => absurd z hw) (fun _ => br_t rfl h)⟩
theorem mo_defineSegment {u : St2} (V : pj_V u) (v1 v2 v3 v4 : Int32) : ∃ (r : Int32) (u' : St2), pj_V u' ∧ ∀ q : Int32 → St2 → Prop, q r u' → wpX_defineSegment q u v1 v2 v3 v4 := by
  obtain ⟨sl, wl, dl, st, fa, ri, si, so, ac, pa, pb, pc, qa, qb, qc, fc, cx, L, F, R1, R2, R3, GC, GO, W, H, SC, FR, rfl, I⟩ := V
  have V : pj_V (sl, wl, dl, st, fa, ri, si, so, ac, rg_P pa pb pc, rg_P qa qb qc, fc, cx, L, F, R1, R2, R3, GC, GO, W, H, SC, FR) := pj_mk I
  obtain ⟨c1, c2, c3, hS, hA, hH, hF, b1, b2, b3, p1, p2, p3, q1, q2, q3⟩ := I
  by_cases a0 : v1 < 0
  · exact ⟨0, (sl, wl, dl, st, fa, ri, si, so, ac, rg_P pa pb pc, rg_P qa qb qc, fc, cx, L, F, R1, R2, R3, GC, GO, W, H, SC, FR), V, fun q h => (br_t a0 h)⟩
  by_cases a1 : v1 < sl
  rotate_left
  · exact ⟨0, (sl, wl, dl, st, fa, ri, si, so, ac, rg_P pa pb pc, rg_P qa qb qc, fc, cx, L, F, R1, R2, R3, GC, GO, W, H, SC, FR), V, fun q h => (br_f a0 (br_f a1 h))⟩
  by_cases a2 : v2 < 1
  · exact ⟨0, (sl, wl, dl, st, fa, ri, si, so, ac, rg_P pa pb pc, rg_P qa qb qc, fc, cx, L, F, R1, R2, R3, GC, GO, W, H, SC, FR), V, fun q h => (br_f a0 (br_t a1 (br_t a2 h)))⟩
  by_cases a3 : v2 ≤ wl
  rotate_left
  · exact ⟨0, (sl, wl, dl, st, fa, ri, si, so, ac, rg_P pa pb pc, rg_P qa qb qc, fc, cx, L, F, R1, R2, R3, GC, GO, W, H, SC, FR), V, fun q h => (br_f a0 (br_t a1 (br_f a2 (br_f a3 h))))⟩
  by_cases a4 : v3 < 0
  · exact ⟨0, (sl, wl, dl, st, fa, ri, si, so, ac, rg_P pa pb pc, rg_P qa qb qc, fc, cx, L, F, R1, R2, R3, GC, GO, W, H, SC, FR), V, fun q h => (br_f a0 (br_t a1 (br_f a2 (br_t a3 (br_t a4 h)))))⟩
  by_cases a5 : v3 ≤ 7
  rotate_left
  · exact ⟨0, (sl, wl, dl, st, fa, ri, si, so, ac, rg_P pa pb pc, rg_P qa qb qc, fc, cx, L, F, R1, R2, R3, GC, GO, W, H, SC, FR), V, fun q h => (br_f a0 (br_t a1 (br_f a2 (br_t a3 (br_f a4 (br_f a5 h))))))⟩
  by_cases a6 : v4 < 0
  · exact ⟨0, (sl, wl, dl, st, fa, ri, si, so, ac, rg_P pa pb pc, rg_P qa qb qc, fc, cx, L, F, R1, R2, R3, GC, GO, W, H, SC, FR), V, fun q h => (br_f a0 (br_t a1 (br_f a2 (br_t a3 (br_f a4 (br_t a5 (br_t a6 h)))))))⟩
  by_cases a7 : v4 ≤ 4095
  rotate_left
  · exact ⟨0, (sl, wl, dl, st, fa, ri, si, so, ac, rg_P pa pb pc, rg_P qa qb qc, fc, cx, L, F, R1, R2, R3, GC, GO, W, H, SC, FR), V, fun q h => (br_f a0 (br_t a1 (br_f a2 (br_t a3 (br_f a4 (br_t a5 (br_f a6 (br_f a7 h))))))))⟩
  by_cases a9 : v4 >>> ((4 : Int32) &&& 31) &&& 15 < (v4 &&& 15)
  · exact ⟨0, (sl, wl, dl, st, fa, ri, si, so, ac, rg_P pa pb pc, rg_P qa qb qc, fc, cx, L, F, R1, R2, R3, GC, GO, W, H, SC, FR), V, fun q h => (br_f a0 (br_t a1 (br_f a2 (br_t a3 (br_f a4 (br_t a5 (br_f a6 (br_t a7 (nm_e (nm_e (nm_e (br_t a9 h))))))))))))⟩
  by_cases a10 : v4 >>> ((8 : Int32) &&& 31) &&& 15 < (v4 >>> ((4 : Int32) &&& 31) &&& 15)
  · exact ⟨0, (sl, wl, dl, st, fa, ri, si, so, ac, rg_P pa pb pc, rg_P qa qb qc, fc, cx, L, F, R1, R2, R3, GC, GO, W, H, SC, FR), V, fun q h => (br_f a0 (br_t a1 (br_f a2 (br_t a3 (br_f a4 (br_t a5 (br_f a6 (br_t a7 (nm_e (nm_e (nm_e (br_f a9 (br_t a10 h)))))))))))))⟩
  by_cases a11 : v4 >>> ((8 : Int32) &&& 31) &&& 15 ≤ 7
  rotate_left
  · exact ⟨0, (sl, wl, dl, st, fa, ri, si, so, ac, rg_P pa pb pc, rg_P qa qb qc, fc, cx, L, F, R1, R2, R3, GC, GO, W, H, SC, FR), V, fun q h => (br_f a0 (br_t a1 (br_f a2 (br_t a3 (br_f a4 (br_t a5 (br_f a6 (br_t a7 (nm_e (nm_e (nm_e (br_f a9 (br_f a10 (br_f a11 h))))))))))))))⟩
  have h8 : rg_B 8 v1 := rg_D8 c1 a0 (rg_nle.mpr a1)
  have hv : vp_in v1 8 := rg_Bin h8 (by decide)
  have e1 : v4 &&& 15 ≤ v4 >>> ((4 : Int32) &&& 31) &&& 15 := rg_nl.mp a9
  have e2 : v4 >>> ((4 : Int32) &&& 31) &&& 15 ≤ 7 := Int32.le_trans (rg_nl.mp a10) a11
  have g1 : rg_B 8 (v4 &&& 15) := rg_Ble (n := 8) (y := 7) ⟨7, by decide, rfl⟩ (by decide) (rg_Bn (rg_B15 _) (by decide)) (Int32.le_trans e1 e2)
  have g2 : rg_B 8 (v4 >>> ((4 : Int32) &&& 31) &&& 15) := rg_Ble (n := 8) (y := 7) ⟨7, by decide, rfl⟩ (by decide) (rg_Bn (rg_B15 _) (by decide)) e2
  have g4 : rg_B 8 (v4 >>> ((8 : Int32) &&& 31) &&& 15) := rg_Ble (n := 8) (y := 7) ⟨7, by decide, rfl⟩ (by decide) (rg_Bn (rg_B15 _) (by decide)) a11
  have g5 : rg_B 8 v3 := rg_Ble (n := 8) (y := 7) ⟨7, by decide, rfl⟩ (by decide) a4 a5
  have g3 : rg_B 33 v2 := rg_Ble c2 (by decide) (rg_n1 a2) a3
  have hA1 := rg_au (k := v1.toNatClampNeg) (x := v3) (fun s => (hA s).1) g5
  have hA2 := rg_au (k := v1.toNatClampNeg) (x := v4 >>> ((8 : Int32) &&& 31) &&& 15) (fun s => (hA s).2) g4
  exact ⟨1, (sl, wl, dl, st, fa, ri, si, so, ac, rg_P pa pb pc, rg_P qa qb qc, fc, cx, upd L v1.toNatClampNeg (v2), upd F v1.toNatClampNeg (v3), upd R1 v1.toNatClampNeg (v4 &&& 15), upd R2 v1.toNatClampNeg (v4 >>> ((4 : Int32) &&& 31) &&& 15), upd R3 v1.toNatClampNeg (v4 >>> ((8 : Int32) &&& 31) &&& 15), upd GC v1.toNatClampNeg (0), GO, rg_cl W (v1 * 32) 32, H, SC, FR), pj_mk ⟨c1, c2, c3, rg_SegD hS g3 g1 g2 e1, fun s => ⟨hA1 s, hA2 s⟩, hH, hF, b1, b2, b3, p1, p2, p3, q1, q2, q3⟩, fun q h => (br_f a0 (br_t a1 (br_f a2 (br_t a3 (br_f a4 (br_t a5 (br_f a6 (br_t a7 (nm_e (nm_e (nm_e (br_f a9 (br_f a10 (br_t a11 ⟨hv, nm_e ⟨hv, nm_e ⟨hv, nm_e ⟨hv, nm_e ⟨hv, nm_e ⟨hv, nm_e (xl_clearWords h8 h)⟩⟩⟩⟩⟩⟩))))))))))))))⟩
theorem mo_start {u : St2} (V : pj_V u) (v1 v2 v3 : Int32) : ∃ (r : Int32) (u' : St2), pj_V u' ∧ ∀ q : Int32 → St2 → Prop, q r u' → wpX_start q u v1 v2 v3 := by
  obtain ⟨sl, wl, dl, st, fa, ri, si, so, ac, pa, pb, pc, qa, qb, qc, fc, cx, L, F, R1, R2, R3, GC, GO, W, H, SC, FR, rfl, I⟩ := V
  have V : pj_V (sl, wl, dl, st, fa, ri, si, so, ac, rg_P pa pb pc, rg_P qa qb qc, fc, cx, L, F, R1, R2, R3, GC, GO, W, H, SC, FR) := pj_mk I
  obtain ⟨c1, c2, c3, hS, hA, hH, hF, b1, b2, b3, p1, p2, p3, q1, q2, q3⟩ := I
  by_cases a0 : v1 < 0
  · exact ⟨0, (sl, wl, dl, st, fa, ri, si, so, ac, rg_P pa pb pc, rg_P qa qb qc, fc, cx, L, F, R1, R2, R3, GC, GO, W, H, SC, FR), V, fun q h => (br_t a0 h)⟩
  by_cases a1 : sl ≤ v1
  · exact ⟨0, (sl, wl, dl, st, fa, ri, si, so, ac, rg_P pa pb pc, rg_P qa qb qc, fc, cx, L, F, R1, R2, R3, GC, GO, W, H, SC, FR), V, fun q h => (br_f a0 (br_t a1 h))⟩
  by_cases a2 : v2 < 0
  · exact ⟨0, (sl, wl, dl, st, fa, ri, si, so, ac, rg_P pa pb pc, rg_P qa qb qc, fc, cx, L, F, R1, R2, R3, GC, GO, W, H, SC, FR), V, fun q h => (br_f a0 (br_f a1 (br_t a2 h)))⟩
  by_cases a3 : wl ≤ v2
  · exact ⟨0, (sl, wl, dl, st, fa, ri, si, so, ac, rg_P pa pb pc, rg_P qa qb qc, fc, cx, L, F, R1, R2, R3, GC, GO, W, H, SC, FR), V, fun q h => (br_f a0 (br_f a1 (br_f a2 (br_t a3 h))))⟩
  by_cases a4 : v3 < 0
  · exact ⟨0, (sl, wl, dl, st, fa, ri, si, so, ac, rg_P pa pb pc, rg_P qa qb qc, fc, cx, L, F, R1, R2, R3, GC, GO, W, H, SC, FR), V, fun q h => (br_f a0 (br_f a1 (br_f a2 (br_f a3 (xl_isRing (fun z => absurd a4 z) (fun _ => br_t rfl h))))))⟩
  by_cases a5 : 7 < v3
  · exact ⟨0, (sl, wl, dl, st, fa, ri, si, so, ac, rg_P pa pb pc, rg_P qa qb qc, fc, cx, L, F, R1, R2, R3, GC, GO, W, H, SC, FR), V, fun q h => (br_f a0 (br_f a1 (br_f a2 (br_f a3 (xl_isRing (fun _ z => absurd a5 z) (fun _ => br_t rfl h))))))⟩
  have g := rg_B7 a4 a5
  refine ⟨1, (sl, wl, dl, 1, 0, v3, v1, v2, 0, rg_P 0 0 v3, rg_P 0 0 v3, 0, 0, L, F, R1, R2, R3, GC, GO, W, rg_z H 8, SC, FR), pj_mk ⟨c1, c2, c3, hS, hA, rg_za hH (rg_B0 (by decide)) 8, rg_Fs0, g, rg_D8 c1 a0 a1, rg_Bm (rg_Bl (n := 32) c2 (by decide) a2 (rg_nle.mp a3)) (by decide), rg_B0 (by decide), rg_B0 (by decide), g, rg_B0 (by decide), rg_B0 (by decide), g⟩, fun q h => (br_f a0 (br_f a1 (br_f a2 (br_f a3 (xl_isRing (fun _ _ => br_f rg_1 ?_) (fun z => absurd ⟨a4, a5⟩ z))))))⟩
  unfold wpX_packPointer
  exact xl_emptyStacks h
