section
variable {post : Int32 → Prop} {LL : Nat} {xs : Nat → Int32} {kc ks : Nat}
theorem lz_423 {J384 : Int32 → Int32 → Int32 → Int32 → Int32 → Int32 → Int32 → Int32 → Int32 → Int32 → Int32 → Int32 → Int32 → Int32 → Int32 → (Nat → Int32) → (Nat → Int32) → (Nat → Int32) → (Nat → Int32) → (Nat → Int32) → (Nat → Int32) → (Nat → Int32) → (Nat → Int32) → (Nat → Int32) → (Nat → Int32) → (Nat → Int32) → Int32 → Int32 → Int32 → Int32 → Int32 → Int32 → Int32 → Int32 → Int32 → Int32 → Int32 → Int32 → Int32 → (Nat → Int32) → (Nat → Int32) → (Nat → Int32) → (Nat → Int32) → (Nat → Int32) → (Nat → Int32) → (Nat → Int32) → (Nat → Int32) → (Nat → Int32) → (Nat → Int32) → (Nat → Int32) → Prop} {sl wl dl st fa ri si so ac pa pb pc qa qb qc fc cx x5 z : Int32} {L F R1 R2 R3 GC GO W H SC FR : Nat → Int32} {t : Nat} (hL : LL ≤ 260) (ht : t < 2 ^ 20) (I : pj_I sl wl dl ri si so pa pb pc qa qb qc fc L F R1 R2 R3 GC H FR) (hz : z = -1 ∨ z = 300 ∨ ∃ m : Nat, m < 6 ∧ z = nI m) (hJ : ∀ (y : Int32) (sl' wl' dl' st' fa' ri' si' so' ac' pa' pb' pc' qa' qb' qc' fc' cx' : Int32) (L' F' R1' R2' R3' GC' GO' W' H' SC' FR' : Nat → Int32), (y = nI t ∨ y = nI (t + 1)) → pj_I sl' wl' dl' ri' si' so' pa' pb' pc' qa' qb' qc' fc' L' F' R1' R2' R3' GC' H' FR' → J384 y (x5 + 1) sl' wl' dl' st' fa' ri' si' so' ac' (rg_P pa' pb' pc') (rg_P qa' qb' qc') fc' cx' L' F' R1' R2' R3' GC' GO' W' H' SC' FR' sl' wl' dl' st' fa' ri' si' so' ac' (rg_P pa' pb' pc') (rg_P qa' qb' qc') fc' cx' L' F' R1' R2' R3' GC' GO' W' H' SC' FR') : wL_law_423 post LL xs J384 (nI t) x5 z kc ks sl wl dl st fa ri si so ac (rg_P pa pb pc) (rg_P qa qb qc) fc cx L F R1 R2 R3 GC GO W H SC FR sl wl dl st fa ri si so ac (rg_P pa pb pc) (rg_P qa qb qc) fc cx L F R1 R2 R3 GC GO W H SC FR := by
  unfold wL_law_423
  rcases hz with rfl | rfl | ⟨m, hm, rfl⟩
  · exact br_f (by decide) ⟨1, br_t (by decide) (br_f (by decide) ⟨1, br_t (by decide) (lc_908 hL ht I hJ)⟩)⟩
  · obtain ⟨r, sl2, wl2, dl2, st2, fa2, ri2, si2, so2, ac2, pa2, pb2, pc2, qa2, qb2, qc2, fc2, cx2, L2, F2, R12, R22, R32, GC2, GO2, W2, H2, SC2, FR2, I2, HX, HL⟩ := sp_loop (post := post) (LL := LL) (xs := xs) 256 (by decide) 256 0 rfl sl wl dl st fa ri si so ac pa pb pc qa qb qc fc cx L F R1 R2 R3 GC GO W H SC FR I
    exact br_t (by decide) ⟨257, HX _ 257 0 (by decide) (br_t (by decide) ⟨257, HL J384 (nI t) x5 (0 + r) kc ks sl2 wl2 dl2 st2 fa2 ri2 si2 so2 ac2 (rg_P pa2 pb2 pc2) (rg_P qa2 qb2 qc2) fc2 cx2 L2 F2 R12 R22 R32 GC2 GO2 W2 H2 SC2 FR2 257 0 (by decide) (lc_908 hL ht I2 hJ)⟩)⟩
  · obtain ⟨r, sl2, wl2, dl2, st2, fa2, ri2, si2, so2, ac2, pa2, pb2, pc2, qa2, qb2, qc2, fc2, cx2, L2, F2, R12, R22, R32, GC2, GO2, W2, H2, SC2, FR2, I2, HX, HL⟩ := sp_loop (post := post) (LL := LL) (xs := xs) m (by omega) m 0 (by omega) sl wl dl st fa ri si so ac pa pb pc qa qb qc fc cx L F R1 R2 R3 GC GO W H SC FR I
    have hn : ¬ (256 : Int32) ≤ nI m := nI_ge (b := 256) (by omega) (by decide)
    exact br_f hn ⟨m + 1, HX _ (m + 1) 0 (by omega) (br_f hn ⟨m + 1, HL J384 (nI t) x5 (0 + r) kc ks sl2 wl2 dl2 st2 fa2 ri2 si2 so2 ac2 (rg_P pa2 pb2 pc2) (rg_P qa2 qb2 qc2) fc2 cx2 L2 F2 R12 R22 R32 GC2 GO2 W2 H2 SC2 FR2 (m + 1) 0 (by omega) (lc_908 hL ht I2 hJ)⟩)⟩
theorem lz_384 (hp : post 1) (hL : LL ≤ 260) : ∀ d i : Nat, i + d = 12 → ∀ (t : Nat) (sl wl dl st fa ri si so ac pa pb pc qa qb qc fc cx : Int32) (L F R1 R2 R3 GC GO W H SC FR : Nat → Int32), t + 2 * d < 2 ^ 19 → pj_I sl wl dl ri si so pa pb pc qa qb qc fc L F R1 R2 R3 GC H FR → wL_law_384 post LL xs kc ks (d + 1) (nI t) (nI i) sl wl dl st fa ri si so ac (rg_P pa pb pc) (rg_P qa qb qc) fc cx L F R1 R2 R3 GC GO W H SC FR sl wl dl st fa ri si so ac (rg_P pa pb pc) (rg_P qa qb qc) fc cx L F R1 R2 R3 GC GO W H SC FR := by
  intro d
  induction d with
  | zero =>
    intro i hi t sl wl dl st fa ri si so ac pa pb pc qa qb qc fc cx L F R1 R2 R3 GC GO W H SC FR ht I
    have e : i = 12 := by omega
    subst e
    exact br_t (by decide) hp
  | succ d ih =>
    intro i hi t sl wl dl st fa ri si so ac pa pb pc qa qb qc fc cx L F R1 R2 R3 GC GO W H SC FR ht I
    have hJ : ∀ (y : Int32) (sl' wl' dl' st' fa' ri' si' so' ac' pa' pb' pc' qa' qb' qc' fc' cx' : Int32) (L' F' R1' R2' R3' GC' GO' W' H' SC' FR' : Nat → Int32), (y = nI (t + 1) ∨ y = nI (t + 1 + 1)) → pj_I sl' wl' dl' ri' si' so' pa' pb' pc' qa' qb' qc' fc' L' F' R1' R2' R3' GC' H' FR' → wL_law_384 post LL xs kc ks (d + 1) y (nI i + 1) sl' wl' dl' st' fa' ri' si' so' ac' (rg_P pa' pb' pc') (rg_P qa' qb' qc') fc' cx' L' F' R1' R2' R3' GC' GO' W' H' SC' FR' sl' wl' dl' st' fa' ri' si' so' ac' (rg_P pa' pb' pc') (rg_P qa' qb' qc') fc' cx' L' F' R1' R2' R3' GC' GO' W' H' SC' FR' := by
      intro y sl' wl' dl' st' fa' ri' si' so' ac' pa' pb' pc' qa' qb' qc' fc' cx' L' F' R1' R2' R3' GC' GO' W' H' SC' FR' hy I'
      rw [nI_1]
      rcases hy with rfl | rfl
      · exact ih (i + 1) (by omega) (t + 1) sl' wl' dl' st' fa' ri' si' so' ac' pa' pb' pc' qa' qb' qc' fc' cx' L' F' R1' R2' R3' GC' GO' W' H' SC' FR' (by omega) I'
      · exact ih (i + 1) (by omega) (t + 1 + 1) sl' wl' dl' st' fa' ri' si' so' ac' pa' pb' pc' qa' qb' qc' fc' cx' L' F' R1' R2' R3' GC' GO' W' H' SC' FR' (by omega) I'
    refine br_f (nI_ge (b := 12) (by omega) (by decide)) (nm_r (nI_1 t) (lc_cell hL (by omega) (fun r => lc_mod (k := 8) (by decide) (by decide) (fun r7 hb => ?_))))
    by_cases h7 : r7 = 7
    · exact br_t h7 (lz_423 hL (by omega) I (Or.inr (Or.inl rfl)) hJ)
    · refine br_f h7 (lz_423 hL (by omega) I ?_ hJ)
      obtain ⟨j, hj, rfl⟩ := hb
      by_cases h0 : j = 0
      · subst h0
        exact Or.inl (by decide)
      · obtain ⟨k, rfl⟩ := Nat.exists_eq_succ_of_ne_zero h0
        have hk : k ≠ 6 := fun z => h7 (by rw [z]; rfl)
        exact Or.inr (Or.inr ⟨k, by omega, nI_pred k⟩)
theorem lc_modE {p : Int32 → Prop} {a m : Int32} (k : Nat) (e : m = nI k) (hk : 0 < k) (hk2 : k < 2 ^ 20) (h : ∀ r, rg_B k r → p r) : wpL_mod p () a m := by
  rw [e]
  exact lc_mod hk hk2 h
theorem lz_247 {J29 : Int32 → Int32 → Int32 → Int32 → Int32 → Int32 → Int32 → Int32 → Int32 → Int32 → Int32 → Int32 → Int32 → Int32 → Int32 → (Nat → Int32) → (Nat → Int32) → (Nat → Int32) → (Nat → Int32) → (Nat → Int32) → (Nat → Int32) → (Nat → Int32) → (Nat → Int32) → (Nat → Int32) → (Nat → Int32) → (Nat → Int32) → Int32 → Int32 → Int32 → Int32 → Int32 → Int32 → Int32 → Int32 → Int32 → Int32 → Int32 → Int32 → Int32 → (Nat → Int32) → (Nat → Int32) → (Nat → Int32) → (Nat → Int32) → (Nat → Int32) → (Nat → Int32) → (Nat → Int32) → (Nat → Int32) → (Nat → Int32) → (Nat → Int32) → (Nat → Int32) → Prop} {x4 : Int32} {len T : Nat} (hL : LL ≤ 260) (hT : T ≤ 1000) (hlen : len ≤ 16) (hJ : ∀ (t' : Nat) (sl' wl' dl' st' fa' ri' si' so' ac' pa' pb' pc' qa' qb' qc' fc' cx' : Int32) (L' F' R1' R2' R3' GC' GO' W' H' SC' FR' : Nat → Int32), t' ≤ T → pj_I sl' wl' dl' ri' si' so' pa' pb' pc' qa' qb' qc' fc' L' F' R1' R2' R3' GC' H' FR' → J29 (nI t') (x4 + 1) sl' wl' dl' st' fa' ri' si' so' ac' (rg_P pa' pb' pc') (rg_P qa' qb' qc') fc' cx' L' F' R1' R2' R3' GC' GO' W' H' SC' FR' sl' wl' dl' st' fa' ri' si' so' ac' (rg_P pa' pb' pc') (rg_P qa' qb' qc') fc' cx' L' F' R1' R2' R3' GC' GO' W' H' SC' FR') : ∀ d i : Nat, i + d = len → ∀ (t : Nat) (sl wl dl st fa ri si so ac pa pb pc qa qb qc fc cx : Int32) (L F R1 R2 R3 GC GO W H SC FR : Nat → Int32), t + d ≤ T → pj_I sl wl dl ri si so pa pb pc qa qb qc fc L F R1 R2 R3 GC H FR → wL_law_247 post LL xs J29 x4 (nI len) kc ks (d + 1) (nI t) (nI i) sl wl dl st fa ri si so ac (rg_P pa pb pc) (rg_P qa qb qc) fc cx L F R1 R2 R3 GC GO W H SC FR sl wl dl st fa ri si so ac (rg_P pa pb pc) (rg_P qa qb qc) fc cx L F R1 R2 R3 GC GO W H SC FR := by
  intro d
  induction d with
  | zero =>
    intro i hi t sl wl dl st fa ri si so ac pa pb pc qa qb qc fc cx L F R1 R2 R3 GC GO W H SC FR ht I
    exact br_t (nI_le (by omega) (by omega)) (nm_e (hJ t sl wl dl st fa ri si so ac pa pb pc qa qb qc fc cx L F R1 R2 R3 GC GO W H SC FR (by omega) I))
  | succ d ih =>
    intro i hi t sl wl dl st fa ri si so ac pa pb pc qa qb qc fc cx L F R1 R2 R3 GC GO W H SC FR ht I
    refine br_f (nI_ge (by omega) (by omega)) (nm_r (nI_1 t) (lc_cell hL (by omega) (fun r => nm_e ?_)))
    obtain ⟨r1, u1, V1, h1⟩ := mo_poke (pj_mk (cx := cx) (st := st) (fa := fa) (ac := ac) (GO := GO) (W := W) (SC := SC) I) x4 (nI i) (((r &&& 15) <<< ((16 : Int32) &&& 31)) ||| ((((r.toUInt32 >>> ((4 : Int32).toUInt32 &&& Int32.toUInt32 31)).toInt32) &&& 3) <<< ((8 : Int32) &&& 31)) ||| (((r.toUInt32 >>> ((6 : Int32).toUInt32 &&& Int32.toUInt32 31)).toInt32) &&& 15))
    obtain ⟨sl1, wl1, dl1, st1, fa1, ri1, si1, so1, ac1, pa1, pb1, pc1, qa1, qb1, qc1, fc1, cx1, L1, F1, R11, R21, R31, GC1, GO1, W1, H1, SC1, FR1, rfl, I1⟩ := V1
    exact h1 _ (h1 _ (nm_r (nI_1 i) (ih (i + 1) (by omega) (t + 1) sl1 wl1 dl1 st1 fa1 ri1 si1 so1 ac1 pa1 pb1 pc1 qa1 qb1 qc1 fc1 cx1 L1 F1 R11 R21 R31 GC1 GO1 W1 H1 SC1 FR1 (by omega) I1)))
theorem lz_198 {J29 : Int32 → Int32 → Int32 → Int32 → Int32 → Int32 → Int32 → Int32 → Int32 → Int32 → Int32 → Int32 → Int32 → Int32 → Int32 → (Nat → Int32) → (Nat → Int32) → (Nat → Int32) → (Nat → Int32) → (Nat → Int32) → (Nat → Int32) → (Nat → Int32) → (Nat → Int32) → (Nat → Int32) → (Nat → Int32) → (Nat → Int32) → Int32 → Int32 → Int32 → Int32 → Int32 → Int32 → Int32 → Int32 → Int32 → Int32 → Int32 → Int32 → Int32 → (Nat → Int32) → (Nat → Int32) → (Nat → Int32) → (Nat → Int32) → (Nat → Int32) → (Nat → Int32) → (Nat → Int32) → (Nat → Int32) → (Nat → Int32) → (Nat → Int32) → (Nat → Int32) → Prop} {x4 : Int32} {len g T : Nat} (hL : LL ≤ 260) (hT : T ≤ 1000) (hlen : len ≤ 16) (hlen0 : 0 < len) (hg : g ≤ 4) (hJ : ∀ (t' : Nat) (sl' wl' dl' st' fa' ri' si' so' ac' pa' pb' pc' qa' qb' qc' fc' cx' : Int32) (L' F' R1' R2' R3' GC' GO' W' H' SC' FR' : Nat → Int32), t' ≤ T → pj_I sl' wl' dl' ri' si' so' pa' pb' pc' qa' qb' qc' fc' L' F' R1' R2' R3' GC' H' FR' → J29 (nI t') (x4 + 1) sl' wl' dl' st' fa' ri' si' so' ac' (rg_P pa' pb' pc') (rg_P qa' qb' qc') fc' cx' L' F' R1' R2' R3' GC' GO' W' H' SC' FR' sl' wl' dl' st' fa' ri' si' so' ac' (rg_P pa' pb' pc') (rg_P qa' qb' qc') fc' cx' L' F' R1' R2' R3' GC' GO' W' H' SC' FR') : ∀ d i : Nat, i + d = g → ∀ (t : Nat) (sl wl dl st fa ri si so ac pa pb pc qa qb qc fc cx : Int32) (L F R1 R2 R3 GC GO W H SC FR : Nat → Int32), t + d + len ≤ T → pj_I sl wl dl ri si so pa pb pc qa qb qc fc L F R1 R2 R3 GC H FR → wL_law_198 post LL xs J29 x4 (nI len) (nI g) kc ks (d + 1) (nI t) (nI i) sl wl dl st fa ri si so ac (rg_P pa pb pc) (rg_P qa qb qc) fc cx L F R1 R2 R3 GC GO W H SC FR sl wl dl st fa ri si so ac (rg_P pa pb pc) (rg_P qa qb qc) fc cx L F R1 R2 R3 GC GO W H SC FR := by
  intro d
  induction d with
  | zero =>
    intro i hi t sl wl dl st fa ri si so ac pa pb pc qa qb qc fc cx L F R1 R2 R3 GC GO W H SC FR ht I
    exact br_t (nI_le (by omega) (by omega)) ⟨len + 1, lz_247 hL hT hlen hJ len 0 (by omega) t sl wl dl st fa ri si so ac pa pb pc qa qb qc fc cx L F R1 R2 R3 GC GO W H SC FR (by omega) I⟩
  | succ d ih =>
    intro i hi t sl wl dl st fa ri si so ac pa pb pc qa qb qc fc cx L F R1 R2 R3 GC GO W H SC FR ht I
    refine br_f (nI_ge (by omega) (by omega)) (nm_r (nI_1 t) (lc_cell hL (by omega) (fun r => lc_mod hlen0 (by omega) (fun r2 hb => ?_))))
    obtain ⟨r1, u1, V1, h1⟩ := mo_addGate (pj_mk (cx := cx) (st := st) (fa := fa) (ac := ac) (GO := GO) (W := W) (SC := SC) I) x4 r2
    obtain ⟨sl1, wl1, dl1, st1, fa1, ri1, si1, so1, ac1, pa1, pb1, pc1, qa1, qb1, qc1, fc1, cx1, L1, F1, R11, R21, R31, GC1, GO1, W1, H1, SC1, FR1, rfl, I1⟩ := V1
    exact h1 _ (h1 _ (nm_r (nI_1 i) (ih (i + 1) (by omega) (t + 1) sl1 wl1 dl1 st1 fa1 ri1 si1 so1 ac1 pa1 pb1 pc1 qa1 qb1 qc1 fc1 cx1 L1 F1 R11 R21 R31 GC1 GO1 W1 H1 SC1 FR1 (by omega) I1)))
theorem lz_83 {J29 : Int32 → Int32 → Int32 → Int32 → Int32 → Int32 → Int32 → Int32 → Int32 → Int32 → Int32 → Int32 → Int32 → Int32 → Int32 → (Nat → Int32) → (Nat → Int32) → (Nat → Int32) → (Nat → Int32) → (Nat → Int32) → (Nat → Int32) → (Nat → Int32) → (Nat → Int32) → (Nat → Int32) → (Nat → Int32) → (Nat → Int32) → Int32 → Int32 → Int32 → Int32 → Int32 → Int32 → Int32 → Int32 → Int32 → Int32 → Int32 → Int32 → Int32 → (Nat → Int32) → (Nat → Int32) → (Nat → Int32) → (Nat → Int32) → (Nat → Int32) → (Nat → Int32) → (Nat → Int32) → (Nat → Int32) → (Nat → Int32) → (Nat → Int32) → (Nat → Int32) → Prop} {sl wl dl st fa ri si so ac pa pb pc qa qb qc fc cx x4 x7 : Int32} {L F R1 R2 R3 GC GO W H SC FR : Nat → Int32} {len t T : Nat} (hL : LL ≤ 260) (hT : T ≤ 1000) (hlen : len ≤ 16) (hlen0 : 0 < len) (hJ : ∀ (t' : Nat) (sl' wl' dl' st' fa' ri' si' so' ac' pa' pb' pc' qa' qb' qc' fc' cx' : Int32) (L' F' R1' R2' R3' GC' GO' W' H' SC' FR' : Nat → Int32), t' ≤ T → pj_I sl' wl' dl' ri' si' so' pa' pb' pc' qa' qb' qc' fc' L' F' R1' R2' R3' GC' H' FR' → J29 (nI t') (x4 + 1) sl' wl' dl' st' fa' ri' si' so' ac' (rg_P pa' pb' pc') (rg_P qa' qb' qc') fc' cx' L' F' R1' R2' R3' GC' GO' W' H' SC' FR' sl' wl' dl' st' fa' ri' si' so' ac' (rg_P pa' pb' pc') (rg_P qa' qb' qc') fc' cx' L' F' R1' R2' R3' GC' GO' W' H' SC' FR') (ht : t + 30 ≤ T) (I : pj_I sl wl dl ri si so pa pb pc qa qb qc fc L F R1 R2 R3 GC H FR) : wL_law_83 post LL xs J29 (nI t) x4 (nI len) x7 kc ks sl wl dl st fa ri si so ac (rg_P pa pb pc) (rg_P qa qb qc) fc cx L F R1 R2 R3 GC GO W H SC FR sl wl dl st fa ri si so ac (rg_P pa pb pc) (rg_P qa qb qc) fc cx L F R1 R2 R3 GC GO W H SC FR := by
  refine nm_r (nI_1 t) (lc_cell hL (by omega) (fun w1 => lc_mod (k := 8) (by decide) (by decide) (fun r1 hb1 => ?_)))
  obtain ⟨a, ha, rfl⟩ := hb1
  refine nm_r (nI_1 (t + 1)) (lc_cell hL (by omega) (fun w2 => lc_modE (8 - a) (pk_sub (a := 8) (b := a) (by omega)) (by omega) (by omega) (fun r2 hb2 => ?_)))
  obtain ⟨b, hb, rfl⟩ := hb2
  refine nm_r (nI_add a b) (nm_r (nI_1 (t + 1 + 1)) (lc_cell hL (by omega) (fun w3 => lc_modE (8 - (a + b)) (pk_sub (a := 8) (b := a + b) (by omega)) (by omega) (by omega) (fun r3 hb3 => nm_e (nm_e ?_)))))
  obtain ⟨r4, u1, V1, h1⟩ := mo_defineSegment (pj_mk (cx := cx) (st := st) (fa := fa) (ac := ac) (GO := GO) (W := W) (SC := SC) I) x4 (nI len) x7 ((nI a ||| (nI (a + b) <<< ((4 : Int32) &&& 31))) ||| ((nI (a + b) + r3) <<< ((8 : Int32) &&& 31)))
  obtain ⟨sl1, wl1, dl1, st1, fa1, ri1, si1, so1, ac1, pa1, pb1, pc1, qa1, qb1, qc1, fc1, cx1, L1, F1, R11, R21, R31, GC1, GO1, W1, H1, SC1, FR1, rfl, I1⟩ := V1
  refine h1 _ (h1 _ (nm_r (nI_1 (t + 1 + 1 + 1)) (lc_cell hL (by omega) (fun w4 => lc_mod (k := 4) (by decide) (by decide) (fun r5 hb5 => ?_)))))
  obtain ⟨g, hg, rfl⟩ := hb5
  exact ⟨g + 1, lz_198 hL hT hlen hlen0 (by omega) hJ g 0 (by omega) (t + 1 + 1 + 1 + 1) sl1 wl1 dl1 st1 fa1 ri1 si1 so1 ac1 pa1 pb1 pc1 qa1 qb1 qc1 fc1 cx1 L1 F1 R11 R21 R31 GC1 GO1 W1 H1 SC1 FR1 (by omega) I1⟩
theorem lz_29 (hp : post 1) (hL : LL ≤ 260) : ∀ d i : Nat, i + d = 4 → ∀ (t : Nat) (sl wl dl st fa ri si so ac pa pb pc qa qb qc fc cx : Int32) (L F R1 R2 R3 GC GO W H SC FR : Nat → Int32), t + 40 * d ≤ 900 → pj_I sl wl dl ri si so pa pb pc qa qb qc fc L F R1 R2 R3 GC H FR → wL_law_29 post LL xs kc ks (d + 1) (nI t) (nI i) sl wl dl st fa ri si so ac (rg_P pa pb pc) (rg_P qa qb qc) fc cx L F R1 R2 R3 GC GO W H SC FR sl wl dl st fa ri si so ac (rg_P pa pb pc) (rg_P qa qb qc) fc cx L F R1 R2 R3 GC GO W H SC FR := by
  intro d
  induction d with
  | zero =>
    intro i hi t sl wl dl st fa ri si so ac pa pb pc qa qb qc fc cx L F R1 R2 R3 GC GO W H SC FR ht I
    have e : i = 4 := by omega
    subst e
    refine br_t (by decide) (nm_r (nI_1 t) (lc_cell hL (by omega) (fun r => ?_)))
    obtain ⟨r1, u1, V1, h1⟩ := mo_start (pj_mk (cx := cx) (st := st) (fa := fa) (ac := ac) (GO := GO) (W := W) (SC := SC) I) (r &&& 3) ((r.toUInt32 >>> ((2 : Int32).toUInt32 &&& Int32.toUInt32 31)).toInt32 &&& 3) ((r.toUInt32 >>> ((4 : Int32).toUInt32 &&& Int32.toUInt32 31)).toInt32 &&& 7)
    obtain ⟨sl1, wl1, dl1, st1, fa1, ri1, si1, so1, ac1, pa1, pb1, pc1, qa1, qb1, qc1, fc1, cx1, L1, F1, R11, R21, R31, GC1, GO1, W1, H1, SC1, FR1, rfl, I1⟩ := V1
    exact h1 _ (h1 _ ⟨13, lz_384 hp hL 12 0 rfl (t + 1) sl1 wl1 dl1 st1 fa1 ri1 si1 so1 ac1 pa1 pb1 pc1 qa1 qb1 qc1 fc1 cx1 L1 F1 R11 R21 R31 GC1 GO1 W1 H1 SC1 FR1 (by omega) I1⟩)
  | succ d ih =>
    intro i hi t sl wl dl st fa ri si so ac pa pb pc qa qb qc fc cx L F R1 R2 R3 GC GO W H SC FR ht I
    have hJ : ∀ (t' : Nat) (sl' wl' dl' st' fa' ri' si' so' ac' pa' pb' pc' qa' qb' qc' fc' cx' : Int32) (L' F' R1' R2' R3' GC' GO' W' H' SC' FR' : Nat → Int32), t' ≤ 900 - 40 * d → pj_I sl' wl' dl' ri' si' so' pa' pb' pc' qa' qb' qc' fc' L' F' R1' R2' R3' GC' H' FR' → wL_law_29 post LL xs kc ks (d + 1) (nI t') (nI i + 1) sl' wl' dl' st' fa' ri' si' so' ac' (rg_P pa' pb' pc') (rg_P qa' qb' qc') fc' cx' L' F' R1' R2' R3' GC' GO' W' H' SC' FR' sl' wl' dl' st' fa' ri' si' so' ac' (rg_P pa' pb' pc') (rg_P qa' qb' qc') fc' cx' L' F' R1' R2' R3' GC' GO' W' H' SC' FR' := by
      intro t' sl' wl' dl' st' fa' ri' si' so' ac' pa' pb' pc' qa' qb' qc' fc' cx' L' F' R1' R2' R3' GC' GO' W' H' SC' FR' ht' I'
      rw [nI_1]
      exact ih (i + 1) (by omega) t' sl' wl' dl' st' fa' ri' si' so' ac' pa' pb' pc' qa' qb' qc' fc' cx' L' F' R1' R2' R3' GC' GO' W' H' SC' FR' (by omega) I'
    refine br_f (nI_ge (b := 4) (by omega) (by decide)) (nm_r (nI_1 t) (lc_cell hL (by omega) (fun w1 => lc_mod (k := 16) (by decide) (by decide) (fun r1 hb1 => ?_))))
    obtain ⟨a, ha, rfl⟩ := hb1
    refine nm_r (nI_add 1 a) (nm_r (nI_1 (t + 1)) (lc_cell hL (by omega) (fun w2 => nm_e (br_c (fun _ => nm_e ?_) (fun _ => ?_)))))
    · exact lz_83 hL (by omega) (by omega) (by omega) hJ (by omega) I
    · exact lz_83 hL (by omega) (by omega) (by omega) hJ (by omega) I
end
