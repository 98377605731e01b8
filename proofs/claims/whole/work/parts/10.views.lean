theorem i_vc_frame {k : Nat} {u : SX} {v : SY} (I : i_Rel k u v) (hk : k + 5 ≤ 2563) (v1 : Int32) (v2 : Int32) : wpX_frame (fun r => wpY_frame (fun r' => r' = r ∧ i_Rel (k + 5) u v) v v1 v2) u v1 v2 := by
  obtain ⟨cx, sl, wl, dl, st, fa, ri, si, so, ac, pa, pb, pc, qa, qb, qc, fc, D, L, F, R1, R2, R3, GC, GO, W, FR, H, SC, rfl, rfl, I⟩ := I
  have I0 : i_Rel (k + 5) (sl, wl, dl, st, fa, ri, si, so, ac, rg_P pa pb pc, rg_P qa qb qc, fc, cx, L, F, R1, R2, R3, GC, GO, W, H, SC, FR) (sl, wl, dl, st, fa, ri, si, so, ac, pa, pb, pc, qa, qb, qc, cx, fc, D, L, F, R1, R2, R3, GC, GO, W, FR, H, SC) := ⟨cx, rg_mk I⟩
  obtain ⟨c1, c2, c3, hS, hD, hH, hF, b1, b2, b3, p1, p2, p3, q1, q2, q3⟩ := I
  by_cases a0 : v1 < 0
  · exact br_t a0 (br_t a0 (And.intro rfl I0))
  by_cases a1 : fc ≤ v1
  · exact br_f a0 (br_t a1 (br_f a0 (br_t a1 (And.intro rfl I0))))
  by_cases a2 : v2 < 0
  · exact br_f a0 (br_f a1 (br_t a2 (br_f a0 (br_f a1 (br_t a2 (And.intro rfl I0))))))
  by_cases a3 : v2 < 6
  · have hf : rg_B 17 fc := by
      obtain ⟨n, hn, e, _⟩ := hF
      exact ⟨n, hn, e⟩
    have hi := rg_i6 (rg_Bl (n := 16) hf (by decide) a0 (rg_nle.mp a1)) (rg_Bl (n := 6) (y := 6) ⟨6, by decide, rfl⟩ (by decide) a2 a3)
    exact br_f a0 (br_f a1 (br_f a2 (br_t a3 ⟨hi, br_f a0 (br_f a1 (br_f a2 (br_t (rg_65.mp a3) ⟨hi, And.intro rfl I0⟩)))⟩)))
  · exact br_f a0 (br_f a1 (br_f a2 (br_f a3 (br_f a0 (br_f a1 (br_f a2 (br_f (fun z => a3 (rg_65.mpr z)) (And.intro rfl I0))))))))
theorem i_vc_stackHeight {k : Nat} {u : SX} {v : SY} (I : i_Rel k u v) (hk : k + 5 ≤ 2563) (v1 : Int32) : wpX_stackHeight (fun r => wpY_stackHeight (fun r' => r' = r ∧ i_Rel (k + 5) u v) v v1) u v1 := by
  obtain ⟨cx, sl, wl, dl, st, fa, ri, si, so, ac, pa, pb, pc, qa, qb, qc, fc, D, L, F, R1, R2, R3, GC, GO, W, FR, H, SC, rfl, rfl, I⟩ := I
  have I0 : i_Rel (k + 5) (sl, wl, dl, st, fa, ri, si, so, ac, rg_P pa pb pc, rg_P qa qb qc, fc, cx, L, F, R1, R2, R3, GC, GO, W, H, SC, FR) (sl, wl, dl, st, fa, ri, si, so, ac, pa, pb, pc, qa, qb, qc, cx, fc, D, L, F, R1, R2, R3, GC, GO, W, FR, H, SC) := ⟨cx, rg_mk I⟩
  obtain ⟨c1, c2, c3, hS, hD, hH, hF, b1, b2, b3, p1, p2, p3, q1, q2, q3⟩ := I
  unfold wpX_stackHeight
  by_cases a0 : v1 < 0
  · exact xl_isRing (fun z => absurd a0 z) (fun _ => br_t rfl (br_t a0 (And.intro rfl I0)))
  by_cases a1 : 7 < v1
  · exact xl_isRing (fun _ z => absurd a1 z) (fun _ => br_t rfl (br_f a0 (br_f (rg_nle.mpr a1) (And.intro rfl I0))))
  have hv := rg_Bin (rg_B7 a0 a1) (by decide)
  exact xl_isRing (fun _ _ => br_f rg_1 ⟨hv, br_f a0 (br_t (rg_nl.mp a1) ⟨hv, And.intro rfl I0⟩)⟩) (fun z => absurd ⟨a0, a1⟩ z)
theorem i_vc_stackValue {k : Nat} {u : SX} {v : SY} (I : i_Rel k u v) (hk : k + 5 ≤ 2563) (v1 : Int32) (v2 : Int32) : wpX_stackValue (fun r => wpY_stackValue (fun r' => r' = r ∧ i_Rel (k + 5) u v) v v1 v2) u v1 v2 := by
  obtain ⟨cx, sl, wl, dl, st, fa, ri, si, so, ac, pa, pb, pc, qa, qb, qc, fc, D, L, F, R1, R2, R3, GC, GO, W, FR, H, SC, rfl, rfl, I⟩ := I
  have I0 : i_Rel (k + 5) (sl, wl, dl, st, fa, ri, si, so, ac, rg_P pa pb pc, rg_P qa qb qc, fc, cx, L, F, R1, R2, R3, GC, GO, W, H, SC, FR) (sl, wl, dl, st, fa, ri, si, so, ac, pa, pb, pc, qa, qb, qc, cx, fc, D, L, F, R1, R2, R3, GC, GO, W, FR, H, SC) := ⟨cx, rg_mk I⟩
  obtain ⟨c1, c2, c3, hS, hD, hH, hF, b1, b2, b3, p1, p2, p3, q1, q2, q3⟩ := I
  unfold wpX_stackValue
  by_cases a0 : v1 < 0
  · exact xl_isRing (fun z => absurd a0 z) (fun _ => br_t rfl (br_t a0 (And.intro rfl I0)))
  by_cases a1 : 7 < v1
  · exact xl_isRing (fun _ z => absurd a1 z) (fun _ => br_t rfl (br_f a0 (br_t a1 (And.intro rfl I0))))
  have h8 := rg_B7 a0 a1
  have hv := rg_Bin h8 (by decide)
  by_cases a2 : v2 < 0
  · exact xl_isRing (fun _ _ => br_f rg_1 (br_t a2 (br_f a0 (br_f a1 (br_t a2 (And.intro rfl I0)))))) (fun z => absurd ⟨a0, a1⟩ z)
  by_cases a3 : v2 < H v1.toNatClampNeg
  · have hi := rg_i16 h8 (rg_Bl (n := 16) (hH v1.toNatClampNeg) (by decide) a2 a3)
    exact xl_isRing (fun _ _ => br_f rg_1 (br_f a2 ⟨hv, br_t a3 ⟨hi, br_f a0 (br_f a1 (br_f a2 ⟨hv, br_t a3 ⟨hi, And.intro rfl I0⟩⟩))⟩⟩)) (fun z => absurd ⟨a0, a1⟩ z)
  · exact xl_isRing (fun _ _ => br_f rg_1 (br_f a2 ⟨hv, br_f a3 (br_f a0 (br_f a1 (br_f a2 ⟨hv, br_f a3 (And.intro rfl I0)⟩)))⟩)) (fun z => absurd ⟨a0, a1⟩ z)
theorem i_vc_state {k : Nat} {u : SX} {v : SY} (I : i_Rel k u v) (hk : k + 5 ≤ 2563) (v1 : Int32) : wpX_state (fun r => wpY_state (fun r' => r' = r ∧ i_Rel (k + 5) u v) v v1) u v1 := by
  obtain ⟨cx, sl, wl, dl, st, fa, ri, si, so, ac, pa, pb, pc, qa, qb, qc, fc, D, L, F, R1, R2, R3, GC, GO, W, FR, H, SC, rfl, rfl, I⟩ := I
  have I0 : i_Rel (k + 5) (sl, wl, dl, st, fa, ri, si, so, ac, rg_P pa pb pc, rg_P qa qb qc, fc, cx, L, F, R1, R2, R3, GC, GO, W, H, SC, FR) (sl, wl, dl, st, fa, ri, si, so, ac, pa, pb, pc, qa, qb, qc, cx, fc, D, L, F, R1, R2, R3, GC, GO, W, FR, H, SC) := ⟨cx, rg_mk I⟩
  obtain ⟨c1, c2, c3, hS, hD, hH, hF, b1, b2, b3, p1, p2, p3, q1, q2, q3⟩ := I
  by_cases a0 : v1 < 0
  · have hn : ∀ i : Nat, i < 9 → ¬ v1 = nI i := fun i hi z => absurd a0 (by rw [z]; exact nI_pos (by omega))
    exact br_t a0 (br_f (hn 0 (by decide)) (br_f (hn 1 (by decide)) (br_f (hn 2 (by decide)) (br_f (hn 3 (by decide)) (br_f (hn 4 (by decide)) (br_f (hn 5 (by decide)) (br_f (hn 6 (by decide)) (br_f (hn 7 (by decide)) (br_f (hn 8 (by decide)) (And.intro rfl I0))))))))))
  by_cases a1 : 8 < v1
  · have hn : ∀ i : Nat, i < 9 → ¬ v1 = nI i := fun i hi z => absurd a1 (by rw [z]; exact nI_nlt (b := i) (a := 8) (by omega) (by omega))
    exact br_f a0 (br_t a1 (br_f (hn 0 (by decide)) (br_f (hn 1 (by decide)) (br_f (hn 2 (by decide)) (br_f (hn 3 (by decide)) (br_f (hn 4 (by decide)) (br_f (hn 5 (by decide)) (br_f (hn 6 (by decide)) (br_f (hn 7 (by decide)) (br_f (hn 8 (by decide)) (And.intro rfl I0)))))))))))
  obtain ⟨j, hj, rfl⟩ := rg_Ble (n := 9) (y := 8) ⟨8, by decide, rfl⟩ (by decide) a0 (rg_nl.mp a1)
  have hc : j = 0 ∨ j = 1 ∨ j = 2 ∨ j = 3 ∨ j = 4 ∨ j = 5 ∨ j = 6 ∨ j = 7 ∨ j = 8 := by omega
  refine br_f a0 (br_f a1 ?_)
  rcases hc with rfl | rfl | rfl | rfl | rfl | rfl | rfl | rfl | rfl
  · exact (br_t rfl (br_t rfl (And.intro rfl I0)))
  · exact (br_f (by decide) (br_t rfl (br_f (by decide) (br_t rfl (And.intro rfl I0)))))
  · exact (br_f (by decide) (br_f (by decide) (br_t rfl (br_f (by decide) (br_f (by decide) (br_t rfl (And.intro rfl I0)))))))
  · exact (br_f (by decide) (br_f (by decide) (br_f (by decide) (br_t rfl (br_f (by decide) (br_f (by decide) (br_f (by decide) (br_t rfl (And.intro rfl I0)))))))))
  · exact (br_f (by decide) (br_f (by decide) (br_f (by decide) (br_f (by decide) (br_t rfl (br_f (by decide) (br_f (by decide) (br_f (by decide) (br_f (by decide) (br_t rfl (And.intro rfl I0)))))))))))
  · exact (br_f (by decide) (br_f (by decide) (br_f (by decide) (br_f (by decide) (br_f (by decide) (br_t rfl (br_f (by decide) (br_f (by decide) (br_f (by decide) (br_f (by decide) (br_f (by decide) (br_t rfl (And.intro rfl I0)))))))))))))
  · exact (br_f (by decide) (br_f (by decide) (br_f (by decide) (br_f (by decide) (br_f (by decide) (br_f (by decide) (br_t rfl (br_f (by decide) (br_f (by decide) (br_f (by decide) (br_f (by decide) (br_f (by decide) (br_f (by decide) (br_t rfl (And.intro rfl I0)))))))))))))))
  · exact (br_f (by decide) (br_f (by decide) (br_f (by decide) (br_f (by decide) (br_f (by decide) (br_f (by decide) (br_f (by decide) (br_t rfl (br_f (by decide) (br_f (by decide) (br_f (by decide) (br_f (by decide) (br_f (by decide) (br_f (by decide) (br_f (by decide) (br_t rfl (And.intro rfl I0)))))))))))))))))
  · exact (br_f (by decide) (br_f (by decide) (br_f (by decide) (br_f (by decide) (br_f (by decide) (br_f (by decide) (br_f (by decide) (br_f (by decide) (br_t rfl (br_f (by decide) (br_f (by decide) (br_f (by decide) (br_f (by decide) (br_f (by decide) (br_f (by decide) (br_f (by decide) (br_f (by decide) (br_t rfl (And.intro rfl I0)))))))))))))))))))
theorem i_vc_run {k : Nat} {u : SX} {v : SY} (I : i_Rel k u v) (hk : k + 5 ≤ 2563) (v1 : Int32) : wpX_run (fun r u' => wpY_run (fun r' v' => r' = r ∧ i_Rel (k + 5) u' v') v v1) u v1 := by
  obtain ⟨cx, sl, wl, dl, st, fa, ri, si, so, ac, pa, pb, pc, qa, qb, qc, fc, D, L, F, R1, R2, R3, GC, GO, W, FR, H, SC, rfl, rfl, I⟩ := I
  have I0 : i_Rel (k + 5) (sl, wl, dl, st, fa, ri, si, so, ac, rg_P pa pb pc, rg_P qa qb qc, fc, cx, L, F, R1, R2, R3, GC, GO, W, H, SC, FR) (sl, wl, dl, st, fa, ri, si, so, ac, pa, pb, pc, qa, qb, qc, cx, fc, D, L, F, R1, R2, R3, GC, GO, W, FR, H, SC) := ⟨cx, rg_mk I⟩
  by_cases hs : st = 1
  · by_cases h1 : 1 ≤ v1
    · have h0 : ¬ v1 < 0 := fun z => absurd (Int32.lt_of_le_of_lt h1 z) (by decide)
      by_cases h2 : 256 ≤ v1
      · obtain ⟨r, c', u', v', hR, HX, HY⟩ := st_run 256 (by decide) 256 0 rfl cx 0 _ _ (rg_mk (cx := cx) (cy := cx) (st := st) (fa := fa) (ac := ac) (F := F) (R3 := R3) (GO := GO) (W := W) (SC := SC) I)
        unfold rg_lx at HX
        unfold rg_ly at HY
        exact br_t h2 ⟨257, HX _ 257 (by decide) (br_t hs (br_t h1 (br_t h2 ⟨257, HY _ 257 (by decide) (And.intro rfl ⟨c', hR⟩)⟩)))⟩
      · obtain ⟨m, hm, rfl⟩ := nI_of h0
        have hm2 : m < 256 := by
          apply Nat.lt_of_not_le
          intro z
          exact h2 (nI_le (a := 256) z hm)
        obtain ⟨r, c', u', v', hR, HX, HY⟩ := st_run m (by omega) m 0 (by omega) cx 0 _ _ (rg_mk (cx := cx) (cy := cx) (st := st) (fa := fa) (ac := ac) (F := F) (R3 := R3) (GO := GO) (W := W) (SC := SC) I)
        unfold rg_lx at HX
        unfold rg_ly at HY
        exact br_f h2 ⟨m + 1, HX _ (m + 1) (by omega) (br_t hs (br_t h1 (br_f h2 ⟨m + 1, HY _ (m + 1) (by omega) (And.intro rfl ⟨c', hR⟩)⟩)))⟩
    · have h2 : ¬ 256 ≤ v1 := fun z => h1 (Int32.le_trans (by decide) z)
      have h3 : v1 ≤ 0 := by
        rw [Int32.le_iff_toInt_le] at h1 ⊢
        rw [show (1 : Int32).toInt = 1 from by decide] at h1
        rw [show (0 : Int32).toInt = 0 from by decide]
        omega
      exact br_f h2 ⟨1, br_t h3 (br_t hs (br_f h1 (And.intro rfl I0)))⟩
  · by_cases h2 : 256 ≤ v1
    · exact br_t h2 ⟨1, br_f (by decide) (br_f hs (br_f hs (And.intro rfl I0)))⟩
    · by_cases h3 : v1 ≤ 0
      · exact br_f h2 ⟨1, br_t h3 (br_f hs (And.intro rfl I0))⟩
      · exact br_f h2 ⟨1, br_f h3 (br_f hs (br_f hs (And.intro rfl I0)))⟩
