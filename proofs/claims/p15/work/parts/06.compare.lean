theorem lc_cell {p : Int32 → Prop} {LL : Nat} {xs : Nat → Int32} {t : Nat} (hL : LL ≤ 260) (ht : t < 2 ^ 20) (h : ∀ r, p r) : wpL_cell p LL xs () (nI t) :=
  br_c (fun _ => h 0) (fun hn => ⟨vp_in_nI (by
    apply Nat.lt_of_not_le
    intro z
    exact hn (nI_le z (by omega))) (by omega), h _⟩)
theorem lc_mod {p : Int32 → Prop} {a : Int32} {k : Nat} (hk : 0 < k) (hk2 : k < 2 ^ 20) (h : ∀ r, rg_B k r → p r) : wpL_mod p () a (nI k) := by
  have hm : (nI k).toInt = (k : Int) := nI_toInt (by omega)
  have hr := rem_toInt a (nI k)
  rw [hm] at hr
  have hb := tmod_bounds (a := a.toInt) (M := (k : Int)) (by omega)
  refine And.intro (nI_ne0 hk (by omega)) (nm_e (br_c (fun h0 => h _ ?_) (fun h0 => h _ ?_)))
  · have h1 : ¬ (a - a / nI k * nI k) < 0 := rg_nl.mpr h0
    obtain ⟨j, hj, e⟩ := nI_of h1
    refine ⟨j, ?_, e⟩
    rw [e, nI_toInt hj] at hr
    omega
  · have h1 : (a - a / nI k * nI k).toInt < 0 := by
      have h2 := rg_nle.mp h0
      rw [Int32.lt_iff_toInt_lt] at h2
      exact h2
    have h3 : (a - a / nI k * nI k + nI k).toInt = (a - a / nI k * nI k).toInt + k := by
      rw [Int32.toInt_add, hm]
      exact Int.bmod_eq_of_le (by omega) (by omega)
    have h4 : ¬ (a - a / nI k * nI k + nI k) < 0 := by
      rw [Int32.lt_iff_toInt_lt, h3, show (0 : Int32).toInt = 0 from by decide]
      omega
    obtain ⟨j, hj, e⟩ := nI_of h4
    refine ⟨j, ?_, e⟩
    rw [e, nI_toInt hj] at h3
    omega
section
variable {sl wl dl st fa ri si so ac pa pb pc qa qb qc fc cx : Int32} {L F R1 R2 R3 GC GO W H SC FR : Nat → Int32}
variable {post : Int32 → Prop} {LL : Nat} {xs : Nat → Int32} {kc ks : Nat} {x3 x5 x8 x11 : Int32} {J : Int32 → Prop}
variable {J384 : Int32 → Int32 → Int32 → Int32 → Int32 → Int32 → Int32 → Int32 → Int32 → Int32 → Int32 → Int32 → Int32 → Int32 → Int32 → (Nat → Int32) → (Nat → Int32) → (Nat → Int32) → (Nat → Int32) → (Nat → Int32) → (Nat → Int32) → (Nat → Int32) → (Nat → Int32) → (Nat → Int32) → (Nat → Int32) → (Nat → Int32) → Int32 → Int32 → Int32 → Int32 → Int32 → Int32 → Int32 → Int32 → Int32 → Int32 → Int32 → Int32 → Int32 → (Nat → Int32) → (Nat → Int32) → (Nat → Int32) → (Nat → Int32) → (Nat → Int32) → (Nat → Int32) → (Nat → Int32) → (Nat → Int32) → (Nat → Int32) → (Nat → Int32) → (Nat → Int32) → Prop}
theorem lc_1083 (I : pj_I sl wl dl ri si so pa pb pc qa qb qc fc L F R1 R2 R3 GC H FR) (hJ : J (x11 + 1)) : ∀ d i : Nat, i + d = 16 → wL_law_1083 post LL xs J384 J x3 x5 x11 kc ks sl wl dl st fa ri si so ac (rg_P pa pb pc) (rg_P qa qb qc) fc cx L F R1 R2 R3 GC GO W H SC FR sl wl dl st fa ri si so ac (rg_P pa pb pc) (rg_P qa qb qc) fc cx L F R1 R2 R3 GC GO W H SC FR (d + 1) (nI i) := by
  have V : pj_V (sl, wl, dl, st, fa, ri, si, so, ac, rg_P pa pb pc, rg_P qa qb qc, fc, cx, L, F, R1, R2, R3, GC, GO, W, H, SC, FR) := pj_mk I
  intro d
  induction d with
  | zero =>
    intro i hi
    have e : i = 16 := by omega
    subst e
    exact br_t (by decide) (nm_e hJ)
  | succ d ih =>
    intro i hi
    obtain ⟨r, hr⟩ := dt_peek V x11 (nI i)
    exact br_f (nI_ge (b := 16) (by omega) (by decide)) (hr _ (hr _ (br_t rfl (nm_r (nI_1 i) (ih (i + 1) (by omega))))))
theorem lc_1032 (I : pj_I sl wl dl ri si so pa pb pc qa qb qc fc L F R1 R2 R3 GC H FR) (hJ : J (x11 + 1)) : ∀ d i : Nat, i + d = 4 → wL_law_1032 post LL xs J384 J x3 x5 x11 kc ks sl wl dl st fa ri si so ac (rg_P pa pb pc) (rg_P qa qb qc) fc cx L F R1 R2 R3 GC GO W H SC FR sl wl dl st fa ri si so ac (rg_P pa pb pc) (rg_P qa qb qc) fc cx L F R1 R2 R3 GC GO W H SC FR (d + 1) (nI i) := by
  have V : pj_V (sl, wl, dl, st, fa, ri, si, so, ac, rg_P pa pb pc, rg_P qa qb qc, fc, cx, L, F, R1, R2, R3, GC, GO, W, H, SC, FR) := pj_mk I
  intro d
  induction d with
  | zero =>
    intro i hi
    have e : i = 4 := by omega
    subst e
    exact br_t (by decide) (nm_e hJ)
  | succ d ih =>
    intro i hi
    obtain ⟨r, hr⟩ := dt_stackValue V x11 (nI i)
    exact br_f (nI_ge (b := 4) (by omega) (by decide)) (hr _ (hr _ (br_t rfl (nm_r (nI_1 i) (ih (i + 1) (by omega))))))
theorem lc_962 (I : pj_I sl wl dl ri si so pa pb pc qa qb qc fc L F R1 R2 R3 GC H FR) (hJ : J (x11 + 1)) : ∀ d i : Nat, i + d = 6 → wL_law_962 post LL xs J384 J x3 x5 x11 kc ks sl wl dl st fa ri si so ac (rg_P pa pb pc) (rg_P qa qb qc) fc cx L F R1 R2 R3 GC GO W H SC FR sl wl dl st fa ri si so ac (rg_P pa pb pc) (rg_P qa qb qc) fc cx L F R1 R2 R3 GC GO W H SC FR (d + 1) (nI i) := by
  have V : pj_V (sl, wl, dl, st, fa, ri, si, so, ac, rg_P pa pb pc, rg_P qa qb qc, fc, cx, L, F, R1, R2, R3, GC, GO, W, H, SC, FR) := pj_mk I
  intro d
  induction d with
  | zero =>
    intro i hi
    have e : i = 6 := by omega
    subst e
    exact br_t (by decide) (nm_e hJ)
  | succ d ih =>
    intro i hi
    obtain ⟨r, hr⟩ := dt_frame V x11 (nI i)
    exact br_f (nI_ge (b := 6) (by omega) (by decide)) (hr _ (hr _ (br_t rfl (nm_r (nI_1 i) (ih (i + 1) (by omega))))))
theorem lc_1074 {t : Nat} (hL : LL ≤ 260) (ht : t < 2 ^ 20) (I : pj_I sl wl dl ri si so pa pb pc qa qb qc fc L F R1 R2 R3 GC H FR) (hJ : ∀ (y : Int32) (sl' wl' dl' st' fa' ri' si' so' ac' pa' pb' pc' qa' qb' qc' fc' cx' : Int32) (L' F' R1' R2' R3' GC' GO' W' H' SC' FR' : Nat → Int32), (y = nI t ∨ y = nI (t + 1)) → pj_I sl' wl' dl' ri' si' so' pa' pb' pc' qa' qb' qc' fc' L' F' R1' R2' R3' GC' H' FR' → J384 y (x5 + 1) sl' wl' dl' st' fa' ri' si' so' ac' (rg_P pa' pb' pc') (rg_P qa' qb' qc') fc' cx' L' F' R1' R2' R3' GC' GO' W' H' SC' FR' sl' wl' dl' st' fa' ri' si' so' ac' (rg_P pa' pb' pc') (rg_P qa' qb' qc') fc' cx' L' F' R1' R2' R3' GC' GO' W' H' SC' FR') : ∀ d i : Nat, i + d = 4 → wL_law_1074 post LL xs J384 (nI t) x5 kc ks sl wl dl st fa ri si so ac (rg_P pa pb pc) (rg_P qa qb qc) fc cx L F R1 R2 R3 GC GO W H SC FR sl wl dl st fa ri si so ac (rg_P pa pb pc) (rg_P qa qb qc) fc cx L F R1 R2 R3 GC GO W H SC FR (d + 1) (nI i) := by
  have V : pj_V (sl, wl, dl, st, fa, ri, si, so, ac, rg_P pa pb pc, rg_P qa qb qc, fc, cx, L, F, R1, R2, R3, GC, GO, W, H, SC, FR) := pj_mk I
  intro d
  induction d with
  | zero =>
    intro i hi
    have e : i = 4 := by omega
    subst e
    refine br_t (by decide) ?_
    refine br_f (by decide) (br_f (by decide) (br_t rfl ?_))
    by_cases hs : st = 1
    · exact br_t hs (nm_e (hJ _ _ _ _ _ _ _ _ _ _ _ _ _ _ _ _ _ _ _ _ _ _ _ _ _ _ _ _ _ (Or.inl rfl) I))
    · refine br_f hs (nm_r (nI_1 t) (lc_cell hL ht (fun r => ?_)))
      obtain ⟨r1, u1, V1, h1⟩ := mo_start V (r &&& 3) ((r.toUInt32 >>> ((2 : Int32).toUInt32 &&& Int32.toUInt32 31)).toInt32 &&& 3) ((r.toUInt32 >>> ((4 : Int32).toUInt32 &&& Int32.toUInt32 31)).toInt32 &&& 7)
      obtain ⟨sl1, wl1, dl1, st1, fa1, ri1, si1, so1, ac1, pa1, pb1, pc1, qa1, qb1, qc1, fc1, cx1, L1, F1, R11, R21, R31, GC1, GO1, W1, H1, SC1, FR1, rfl, I1⟩ := V1
      exact h1 _ (h1 _ (nm_e (hJ _ _ _ _ _ _ _ _ _ _ _ _ _ _ _ _ _ _ _ _ _ _ _ _ _ _ _ _ _ (Or.inr rfl) I1)))
  | succ d ih =>
    intro i hi
    exact br_f (nI_ge (b := 4) (by omega) (by decide)) ⟨17, lc_1083 I (by rw [nI_1]; exact ih (i + 1) (by omega)) 16 0 rfl⟩
theorem lc_1005 {t : Nat} (hL : LL ≤ 260) (ht : t < 2 ^ 20) (I : pj_I sl wl dl ri si so pa pb pc qa qb qc fc L F R1 R2 R3 GC H FR) (hJ : ∀ (y : Int32) (sl' wl' dl' st' fa' ri' si' so' ac' pa' pb' pc' qa' qb' qc' fc' cx' : Int32) (L' F' R1' R2' R3' GC' GO' W' H' SC' FR' : Nat → Int32), (y = nI t ∨ y = nI (t + 1)) → pj_I sl' wl' dl' ri' si' so' pa' pb' pc' qa' qb' qc' fc' L' F' R1' R2' R3' GC' H' FR' → J384 y (x5 + 1) sl' wl' dl' st' fa' ri' si' so' ac' (rg_P pa' pb' pc') (rg_P qa' qb' qc') fc' cx' L' F' R1' R2' R3' GC' GO' W' H' SC' FR' sl' wl' dl' st' fa' ri' si' so' ac' (rg_P pa' pb' pc') (rg_P qa' qb' qc') fc' cx' L' F' R1' R2' R3' GC' GO' W' H' SC' FR') : ∀ d i : Nat, i + d = 8 → wL_law_1005 post LL xs J384 (nI t) x5 kc ks sl wl dl st fa ri si so ac (rg_P pa pb pc) (rg_P qa qb qc) fc cx L F R1 R2 R3 GC GO W H SC FR sl wl dl st fa ri si so ac (rg_P pa pb pc) (rg_P qa qb qc) fc cx L F R1 R2 R3 GC GO W H SC FR (d + 1) (nI i) := by
  have V : pj_V (sl, wl, dl, st, fa, ri, si, so, ac, rg_P pa pb pc, rg_P qa qb qc, fc, cx, L, F, R1, R2, R3, GC, GO, W, H, SC, FR) := pj_mk I
  intro d
  induction d with
  | zero =>
    intro i hi
    have e : i = 8 := by omega
    subst e
    exact br_t (by decide) ⟨5, lc_1074 hL ht I hJ 4 0 rfl⟩
  | succ d ih =>
    intro i hi
    obtain ⟨r, hr⟩ := dt_stackHeight V (nI i)
    exact br_f (nI_ge (b := 8) (by omega) (by decide)) (hr _ (hr _ (br_t rfl ⟨5, lc_1032 I (by rw [nI_1]; exact ih (i + 1) (by omega)) 4 0 rfl⟩)))
theorem lc_953 {t : Nat} (hL : LL ≤ 260) (ht : t < 2 ^ 20) (I : pj_I sl wl dl ri si so pa pb pc qa qb qc fc L F R1 R2 R3 GC H FR) (hJ : ∀ (y : Int32) (sl' wl' dl' st' fa' ri' si' so' ac' pa' pb' pc' qa' qb' qc' fc' cx' : Int32) (L' F' R1' R2' R3' GC' GO' W' H' SC' FR' : Nat → Int32), (y = nI t ∨ y = nI (t + 1)) → pj_I sl' wl' dl' ri' si' so' pa' pb' pc' qa' qb' qc' fc' L' F' R1' R2' R3' GC' H' FR' → J384 y (x5 + 1) sl' wl' dl' st' fa' ri' si' so' ac' (rg_P pa' pb' pc') (rg_P qa' qb' qc') fc' cx' L' F' R1' R2' R3' GC' GO' W' H' SC' FR' sl' wl' dl' st' fa' ri' si' so' ac' (rg_P pa' pb' pc') (rg_P qa' qb' qc') fc' cx' L' F' R1' R2' R3' GC' GO' W' H' SC' FR') : ∀ d i : Nat, i + d = 4 → wL_law_953 post LL xs J384 (nI t) x5 kc ks sl wl dl st fa ri si so ac (rg_P pa pb pc) (rg_P qa qb qc) fc cx L F R1 R2 R3 GC GO W H SC FR sl wl dl st fa ri si so ac (rg_P pa pb pc) (rg_P qa qb qc) fc cx L F R1 R2 R3 GC GO W H SC FR (d + 1) (nI i) := by
  have V : pj_V (sl, wl, dl, st, fa, ri, si, so, ac, rg_P pa pb pc, rg_P qa qb qc, fc, cx, L, F, R1, R2, R3, GC, GO, W, H, SC, FR) := pj_mk I
  intro d
  induction d with
  | zero =>
    intro i hi
    have e : i = 4 := by omega
    subst e
    exact br_t (by decide) ⟨9, lc_1005 hL ht I hJ 8 0 rfl⟩
  | succ d ih =>
    intro i hi
    exact br_f (nI_ge (b := 4) (by omega) (by decide)) ⟨7, lc_962 I (by rw [nI_1]; exact ih (i + 1) (by omega)) 6 0 rfl⟩
theorem lc_920 {t : Nat} (hL : LL ≤ 260) (ht : t < 2 ^ 20) (I : pj_I sl wl dl ri si so pa pb pc qa qb qc fc L F R1 R2 R3 GC H FR) (hJ : ∀ (y : Int32) (sl' wl' dl' st' fa' ri' si' so' ac' pa' pb' pc' qa' qb' qc' fc' cx' : Int32) (L' F' R1' R2' R3' GC' GO' W' H' SC' FR' : Nat → Int32), (y = nI t ∨ y = nI (t + 1)) → pj_I sl' wl' dl' ri' si' so' pa' pb' pc' qa' qb' qc' fc' L' F' R1' R2' R3' GC' H' FR' → J384 y (x5 + 1) sl' wl' dl' st' fa' ri' si' so' ac' (rg_P pa' pb' pc') (rg_P qa' qb' qc') fc' cx' L' F' R1' R2' R3' GC' GO' W' H' SC' FR' sl' wl' dl' st' fa' ri' si' so' ac' (rg_P pa' pb' pc') (rg_P qa' qb' qc') fc' cx' L' F' R1' R2' R3' GC' GO' W' H' SC' FR') : ∀ d i : Nat, i + d = 9 → wL_law_920 post LL xs J384 (nI t) x5 kc ks sl wl dl st fa ri si so ac (rg_P pa pb pc) (rg_P qa qb qc) fc cx L F R1 R2 R3 GC GO W H SC FR sl wl dl st fa ri si so ac (rg_P pa pb pc) (rg_P qa qb qc) fc cx L F R1 R2 R3 GC GO W H SC FR (d + 1) (nI i) := by
  have V : pj_V (sl, wl, dl, st, fa, ri, si, so, ac, rg_P pa pb pc, rg_P qa qb qc, fc, cx, L, F, R1, R2, R3, GC, GO, W, H, SC, FR) := pj_mk I
  intro d
  induction d with
  | zero =>
    intro i hi
    have e : i = 9 := by omega
    subst e
    exact br_t (by decide) ⟨5, lc_953 hL ht I hJ 4 0 rfl⟩
  | succ d ih =>
    intro i hi
    obtain ⟨r, hr⟩ := dt_state V (nI i)
    exact br_f (nI_nlt (a := 8) (b := i) (by omega) (by decide)) (hr _ (hr _ (br_t rfl (nm_r (nI_1 i) (ih (i + 1) (by omega))))))
theorem lc_908 {t : Nat} (hL : LL ≤ 260) (ht : t < 2 ^ 20) (I : pj_I sl wl dl ri si so pa pb pc qa qb qc fc L F R1 R2 R3 GC H FR) (hJ : ∀ (y : Int32) (sl' wl' dl' st' fa' ri' si' so' ac' pa' pb' pc' qa' qb' qc' fc' cx' : Int32) (L' F' R1' R2' R3' GC' GO' W' H' SC' FR' : Nat → Int32), (y = nI t ∨ y = nI (t + 1)) → pj_I sl' wl' dl' ri' si' so' pa' pb' pc' qa' qb' qc' fc' L' F' R1' R2' R3' GC' H' FR' → J384 y (x5 + 1) sl' wl' dl' st' fa' ri' si' so' ac' (rg_P pa' pb' pc') (rg_P qa' qb' qc') fc' cx' L' F' R1' R2' R3' GC' GO' W' H' SC' FR' sl' wl' dl' st' fa' ri' si' so' ac' (rg_P pa' pb' pc') (rg_P qa' qb' qc') fc' cx' L' F' R1' R2' R3' GC' GO' W' H' SC' FR') : wL_law_908 post LL xs J384 (nI t) x5 x8 x8 kc ks sl wl dl st fa ri si so ac (rg_P pa pb pc) (rg_P qa qb qc) fc cx L F R1 R2 R3 GC GO W H SC FR sl wl dl st fa ri si so ac (rg_P pa pb pc) (rg_P qa qb qc) fc cx L F R1 R2 R3 GC GO W H SC FR :=
  br_t rfl ⟨10, lc_920 hL ht I hJ 9 0 rfl⟩
end
