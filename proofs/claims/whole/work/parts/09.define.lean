section
variable {sl wl dl st fa ri si so ac pa pb pc qa qb qc cx cy fc : Int32} {D L F R1 R2 R3 GC GO W FR H SC : Nat → Int32}
variable {pq : Int32 → SY → Prop} {ps : SY → Prop} {s : Int32}
theorem yl_clearLoop {W0 : Nat → Int32} (hs : rg_B 8 s) (hp : pq 1 (sl, wl, dl, st, fa, ri, si, so, ac, pa, pb, pc, qa, qb, qc, cy, fc, D, L, F, R1, R2, R3, GC, GO, rg_cl W0 (s * 32) 32, FR, H, SC)) : ∀ d i : Nat, i + d = 32 → wY_defineSegment_160 pq s sl wl dl st fa ri si so ac pa pb pc qa qb qc cy fc (d + 1) (nI i) D L F R1 R2 R3 GC GO (rg_cl W0 (s * 32) i) FR H SC := by
  intro d
  induction d with
  | zero =>
    intro i hi
    have e : i = 32 := by omega
    subst e
    exact br_t (by decide) hp
  | succ d ih =>
    intro i hi
    exact br_f (nI_ge (b := 32) (by omega) (by decide)) ⟨rg_i32 hs ⟨i, by omega, rfl⟩, nm_e (nm_r (nI_1 i) (ih (i + 1) (by omega)))⟩
theorem yl_startLoop {H0 : Nat → Int32} (hp : pq 1 (sl, wl, dl, st, fa, ri, si, so, ac, pa, pb, pc, qa, qb, qc, 0, fc, D, L, F, R1, R2, R3, GC, GO, W, FR, rg_z H0 8, SC)) : ∀ d i : Nat, i + d = 8 → wY_start_104 pq sl wl dl st fa ri si so ac pa pb pc qa qb qc cy fc (d + 1) (nI i) D L F R1 R2 R3 GC GO W FR (rg_z H0 i) SC := by
  intro d
  induction d with
  | zero =>
    intro i hi
    have e : i = 8 := by omega
    subst e
    exact br_t (by decide) hp
  | succ d ih =>
    intro i hi
    exact br_f (nI_ge (b := 8) (by omega) (by decide)) ⟨vp_in_nI (by omega) (by decide), nm_e (nm_r (nI_1 i) (ih (i + 1) (by omega)))⟩
theorem yl_151 {x z : Int32} (h : ps (sl, z, if 4 ≤ x then (if x ≤ 16 then x else 16) else 4, st, fa, ri, si, so, ac, pa, pb, pc, qa, qb, qc, cy, fc, D, L, F, R1, R2, R3, GC, GO, W, FR, H, SC)) : wY_init_151 ps x z sl wl dl st fa ri si so ac pa pb pc qa qb qc cy fc D L F R1 R2 R3 GC GO W FR H SC := by
  by_cases a : 4 ≤ x
  · by_cases b : x ≤ 16
    · rw [if_pos a, if_pos b] at h; exact br_t a (br_t b h)
    · rw [if_pos a, if_neg b] at h; exact br_t a (br_f b h)
  · rw [if_neg a] at h; exact br_f a h
theorem yl_124 {x y z : Int32} (h : ps (z, if 8 ≤ x then (if x ≤ 32 then x else 32) else 8, if 4 ≤ y then (if y ≤ 16 then y else 16) else 4, st, fa, ri, si, so, ac, pa, pb, pc, qa, qb, qc, cy, fc, D, L, F, R1, R2, R3, GC, GO, W, FR, H, SC)) : wY_init_124 ps x y z sl wl dl st fa ri si so ac pa pb pc qa qb qc cy fc D L F R1 R2 R3 GC GO W FR H SC := by
  by_cases a : 8 ≤ x
  · by_cases b : x ≤ 32
    · rw [if_pos a, if_pos b] at h; exact br_t a (br_t b (yl_151 h))
    · rw [if_pos a, if_neg b] at h; exact br_t a (br_f b (yl_151 h))
  · rw [if_neg a] at h; exact br_f a (yl_151 h)
end
theorem rg_cB {x : Int32} (a b n : Nat) (h : a ≤ b) (hb : b < n) (hn : n < 2 ^ 30) : rg_B n (if nI a ≤ x then (if x ≤ nI b then x else nI b) else nI a) := by
  by_cases h1 : nI a ≤ x
  · rw [if_pos h1]
    by_cases h2 : x ≤ nI b
    · rw [if_pos h2]
      refine rg_Ble (y := nI b) ⟨b, hb, rfl⟩ hn ?_ h2
      exact rg_nl.mpr (Int32.le_trans (nI_pos' (by omega)) h1)
    · rw [if_neg h2]
      exact ⟨b, hb, rfl⟩
  · rw [if_neg h1]
    exact ⟨a, by omega, rfl⟩
theorem rg_P0 : rg_P 0 0 0 = 0 := by decide
theorem rg_Fs0 {FR : Nat → Int32} : rg_Fs 0 FR := ⟨0, by decide, rfl, fun f hf => absurd hf (Nat.not_lt_zero f)⟩
theorem i_vc0 (k0 : Int32) (k1 : Int32) (k2 : Int32) : wpX_init (fun u => wpY_init (fun v => i_Rel 3 u v) k0 k1 k2) k0 k1 k2 := by
  have hR : rg_R 0 0 ((if 2 ≤ k0 then (if k0 ≤ 8 then k0 else 8) else 2), (if 8 ≤ k1 then (if k1 ≤ 32 then k1 else 32) else 8), (if 4 ≤ k2 then (if k2 ≤ 16 then k2 else 16) else 4), 0, 0, 0, 0, 0, 0, (rg_P 0 0 0), (rg_P 0 0 0), 0, 0, (fun _ => 0), (fun _ => 0), (fun _ => 0), (fun _ => 0), (fun _ => 0), (fun _ => 0), (fun _ => 0), (fun _ => 0), (fun _ => 0), (fun _ => 0), (fun _ => 0)) ((if 2 ≤ k0 then (if k0 ≤ 8 then k0 else 8) else 2), (if 8 ≤ k1 then (if k1 ≤ 32 then k1 else 32) else 8), (if 4 ≤ k2 then (if k2 ≤ 16 then k2 else 16) else 4), 0, 0, 0, 0, 0, 0, 0, 0, 0, 0, 0, 0, 0, 0, (fun _ => 0), (fun _ => 0), (fun _ => 0), (fun _ => 0), (fun _ => 0), (fun _ => 0), (fun _ => 0), (fun _ => 0), (fun _ => 0), (fun _ => 0), (fun _ => 0), (fun _ => 0)) := by
    refine rg_mk ⟨rg_cB 2 8 9 (by decide) (by decide) (by decide), rg_cB 8 32 33 (by decide) (by decide) (by decide), rg_cB 4 16 17 (by decide) (by decide) (by decide), fun s => ⟨rg_B0 (by decide), rg_B0 (by decide), rg_B0 (by decide), Int32.le_refl _, rg_B0 (by decide)⟩, fun s => ⟨fun _ => Int32.le_refl _, fun _ => rfl⟩, fun s => rg_B0 (by decide), rg_Fs0, rg_B0 (by decide), rg_B0 (by decide), rg_B0 (by decide), rg_B0 (by decide), rg_B0 (by decide), rg_B0 (by decide), rg_B0 (by decide), rg_B0 (by decide), rg_B0 (by decide)⟩
  rw [rg_P0] at hR
  have hI : i_Rel 3 _ _ := ⟨0, hR⟩
  unfold wpX_init
  refine xl_clamp (xl_clamp (xl_clamp ?_))
  unfold wpY_init
  by_cases a : 2 ≤ k0
  · by_cases b : k0 ≤ 8
    · simp only [if_pos a, if_pos b] at hI ⊢; exact br_t a (br_t b (yl_124 hI))
    · simp only [if_pos a, if_neg b] at hI ⊢; exact br_t a (br_f b (yl_124 hI))
  · simp only [if_neg a] at hI ⊢; exact br_f a (yl_124 hI)
theorem i_vc_defineSegment {k : Nat} {u : SX} {v : SY} (I : i_Rel k u v) (hk : k + 5 ≤ 2563) (v1 : Int32) (v2 : Int32) (v3 : Int32) (v4 : Int32) : wpX_defineSegment (fun r u' => wpY_defineSegment (fun r' v' => r' = r ∧ i_Rel (k + 5) u' v') v v1 v2 v3 v4) u v1 v2 v3 v4 := by
  obtain ⟨cx, sl, wl, dl, st, fa, ri, si, so, ac, pa, pb, pc, qa, qb, qc, fc, D, L, F, R1, R2, R3, GC, GO, W, FR, H, SC, rfl, rfl, I⟩ := I
  have I0 : i_Rel (k + 5) (sl, wl, dl, st, fa, ri, si, so, ac, rg_P pa pb pc, rg_P qa qb qc, fc, cx, L, F, R1, R2, R3, GC, GO, W, H, SC, FR) (sl, wl, dl, st, fa, ri, si, so, ac, pa, pb, pc, qa, qb, qc, cx, fc, D, L, F, R1, R2, R3, GC, GO, W, FR, H, SC) := ⟨cx, rg_mk I⟩
  obtain ⟨c1, c2, c3, hS, hD, hH, hF, b1, b2, b3, p1, p2, p3, q1, q2, q3⟩ := I
  by_cases a0 : v1 < 0
  · exact (br_t a0 (br_t a0 (And.intro rfl I0)))
  by_cases a1 : v1 < sl
  rotate_left
  · exact (br_f a0 (br_f a1 (br_f a0 (br_f a1 (And.intro rfl I0)))))
  by_cases a2 : v2 < 1
  · exact (br_f a0 (br_t a1 (br_t a2 (br_f a0 (br_t a1 (br_t a2 (And.intro rfl I0)))))))
  by_cases a3 : v2 ≤ wl
  rotate_left
  · exact (br_f a0 (br_t a1 (br_f a2 (br_f a3 (br_f a0 (br_t a1 (br_f a2 (br_f a3 (And.intro rfl I0)))))))))
  by_cases a4 : v3 < 0
  · exact (br_f a0 (br_t a1 (br_f a2 (br_t a3 (br_t a4 (br_f a0 (br_t a1 (br_f a2 (br_t a3 (br_t a4 (And.intro rfl I0)))))))))))
  by_cases a5 : v3 ≤ 7
  rotate_left
  · exact (br_f a0 (br_t a1 (br_f a2 (br_t a3 (br_f a4 (br_f a5 (br_f a0 (br_t a1 (br_f a2 (br_t a3 (br_f a4 (br_f a5 (And.intro rfl I0)))))))))))))
  by_cases a6 : v4 < 0
  · exact (br_f a0 (br_t a1 (br_f a2 (br_t a3 (br_f a4 (br_t a5 (br_t a6 (br_f a0 (br_t a1 (br_f a2 (br_t a3 (br_f a4 (br_t a5 (br_t a6 (And.intro rfl I0)))))))))))))))
  by_cases a7 : v4 ≤ 4095
  rotate_left
  · exact (br_f a0 (br_t a1 (br_f a2 (br_t a3 (br_f a4 (br_t a5 (br_f a6 (br_f a7 (br_f a0 (br_t a1 (br_f a2 (br_t a3 (br_f a4 (br_t a5 (br_f a6 (br_f a7 (And.intro rfl I0)))))))))))))))))
  by_cases a9 : v4 >>> ((4 : Int32) &&& 31) &&& 15 < (v4 &&& 15)
  · exact (br_f a0 (br_t a1 (br_f a2 (br_t a3 (br_f a4 (br_t a5 (br_f a6 (br_t a7 (nm_e (nm_e (nm_e (br_t a9 (br_f a0 (br_t a1 (br_f a2 (br_t a3 (br_f a4 (br_t a5 (br_f a6 (br_t a7 (nm_e (nm_e (nm_e (br_t a9 (And.intro rfl I0)))))))))))))))))))))))))
  by_cases a10 : v4 >>> ((8 : Int32) &&& 31) &&& 15 < (v4 >>> ((4 : Int32) &&& 31) &&& 15)
  · exact (br_f a0 (br_t a1 (br_f a2 (br_t a3 (br_f a4 (br_t a5 (br_f a6 (br_t a7 (nm_e (nm_e (nm_e (br_f a9 (br_t a10 (br_f a0 (br_t a1 (br_f a2 (br_t a3 (br_f a4 (br_t a5 (br_f a6 (br_t a7 (nm_e (nm_e (nm_e (br_f a9 (br_t a10 (And.intro rfl I0)))))))))))))))))))))))))))
  by_cases a11 : v4 >>> ((8 : Int32) &&& 31) &&& 15 ≤ 7
  rotate_left
  · exact (br_f a0 (br_t a1 (br_f a2 (br_t a3 (br_f a4 (br_t a5 (br_f a6 (br_t a7 (nm_e (nm_e (nm_e (br_f a9 (br_f a10 (br_f a11 (br_f a0 (br_t a1 (br_f a2 (br_t a3 (br_f a4 (br_t a5 (br_f a6 (br_t a7 (nm_e (nm_e (nm_e (br_f a9 (br_f a10 (br_f a11 (And.intro rfl I0)))))))))))))))))))))))))))))
  have h8 : rg_B 8 v1 := rg_D8 c1 a0 (rg_nle.mpr a1)
  have hv : vp_in v1 8 := rg_Bin h8 (by decide)
  have e1 : v4 &&& 15 ≤ v4 >>> ((4 : Int32) &&& 31) &&& 15 := rg_nl.mp a9
  have e2 : v4 >>> ((4 : Int32) &&& 31) &&& 15 ≤ 7 := Int32.le_trans (rg_nl.mp a10) a11
  have g1 : rg_B 8 (v4 &&& 15) := rg_Ble (n := 8) (y := 7) ⟨7, by decide, rfl⟩ (by decide) (rg_Bn (rg_B15 _) (by decide)) (Int32.le_trans e1 e2)
  have g2 : rg_B 8 (v4 >>> ((4 : Int32) &&& 31) &&& 15) := rg_Ble (n := 8) (y := 7) ⟨7, by decide, rfl⟩ (by decide) (rg_Bn (rg_B15 _) (by decide)) e2
  have g3 : rg_B 33 v2 := rg_Ble c2 (by decide) (rg_n1 a2) a3
  have I1 : i_Rel (k + 5) (sl, wl, dl, st, fa, ri, si, so, ac, rg_P pa pb pc, rg_P qa qb qc, fc, cx, upd L v1.toNatClampNeg (v2), upd F v1.toNatClampNeg (v3), upd R1 v1.toNatClampNeg (v4 &&& 15), upd R2 v1.toNatClampNeg (v4 >>> ((4 : Int32) &&& 31) &&& 15), upd R3 v1.toNatClampNeg (v4 >>> ((8 : Int32) &&& 31) &&& 15), upd GC v1.toNatClampNeg (0), GO, rg_cl W (v1 * 32) 32, H, SC, FR) (sl, wl, dl, st, fa, ri, si, so, ac, pa, pb, pc, qa, qb, qc, cx, fc, upd D v1.toNatClampNeg (vp_nar .boolean 1), upd L v1.toNatClampNeg (v2), upd F v1.toNatClampNeg (v3), upd R1 v1.toNatClampNeg (v4 &&& 15), upd R2 v1.toNatClampNeg (v4 >>> ((4 : Int32) &&& 31) &&& 15), upd R3 v1.toNatClampNeg (v4 >>> ((8 : Int32) &&& 31) &&& 15), upd GC v1.toNatClampNeg (0), GO, rg_cl W (v1 * 32) 32, FR, H, SC) := ⟨cx, rg_mk ⟨c1, c2, c3, rg_SegD hS g3 g1 g2 e1, rg_DdD hD (rg_n1' a2), hH, hF, b1, b2, b3, p1, p2, p3, q1, q2, q3⟩⟩
  exact (br_f a0 (br_t a1 (br_f a2 (br_t a3 (br_f a4 (br_t a5 (br_f a6 (br_t a7 (nm_e (nm_e (nm_e (br_f a9 (br_f a10 (br_t a11 ⟨hv, nm_e ⟨hv, nm_e ⟨hv, nm_e ⟨hv, nm_e ⟨hv, nm_e ⟨hv, nm_e (xl_clearWords h8 (br_f a0 (br_t a1 (br_f a2 (br_t a3 (br_f a4 (br_t a5 (br_f a6 (br_t a7 (nm_e (nm_e (nm_e (br_f a9 (br_f a10 (br_t a11 ⟨hv, nm_e ⟨hv, nm_e ⟨hv, nm_e ⟨hv, nm_e ⟨hv, nm_e ⟨hv, nm_e ⟨hv, nm_e ⟨33, yl_clearLoop (W0 := W) h8 (And.intro rfl I1) 32 0 rfl⟩⟩⟩⟩⟩⟩⟩⟩)))))))))))))))⟩⟩⟩⟩⟩⟩))))))))))))))
theorem i_vc_start {k : Nat} {u : SX} {v : SY} (I : i_Rel k u v) (hk : k + 5 ≤ 2563) (v1 : Int32) (v2 : Int32) (v3 : Int32) : wpX_start (fun r u' => wpY_start (fun r' v' => r' = r ∧ i_Rel (k + 5) u' v') v v1 v2 v3) u v1 v2 v3 := by
  obtain ⟨cx, sl, wl, dl, st, fa, ri, si, so, ac, pa, pb, pc, qa, qb, qc, fc, D, L, F, R1, R2, R3, GC, GO, W, FR, H, SC, rfl, rfl, I⟩ := I
  have I0 : i_Rel (k + 5) (sl, wl, dl, st, fa, ri, si, so, ac, rg_P pa pb pc, rg_P qa qb qc, fc, cx, L, F, R1, R2, R3, GC, GO, W, H, SC, FR) (sl, wl, dl, st, fa, ri, si, so, ac, pa, pb, pc, qa, qb, qc, cx, fc, D, L, F, R1, R2, R3, GC, GO, W, FR, H, SC) := ⟨cx, rg_mk I⟩
  obtain ⟨c1, c2, c3, hS, hD, hH, hF, b1, b2, b3, p1, p2, p3, q1, q2, q3⟩ := I
  by_cases a0 : v1 < 0
  · exact (br_t a0 (br_t a0 (And.intro rfl I0)))
  by_cases a1 : sl ≤ v1
  · exact (br_f a0 (br_t a1 (br_f a0 (br_t a1 (And.intro rfl I0)))))
  by_cases a2 : v2 < 0
  · exact (br_f a0 (br_f a1 (br_t a2 (br_f a0 (br_f a1 (br_t a2 (And.intro rfl I0)))))))
  by_cases a3 : wl ≤ v2
  · exact (br_f a0 (br_f a1 (br_f a2 (br_t a3 (br_f a0 (br_f a1 (br_f a2 (br_t a3 (And.intro rfl I0)))))))))
  by_cases a4 : v3 < 0
  · exact (br_f a0 (br_f a1 (br_f a2 (br_f a3 (xl_isRing (fun z => absurd a4 z) (fun _ => br_t rfl (br_f a0 (br_f a1 (br_f a2 (br_f a3 (br_t a4 (And.intro rfl I0))))))))))))
  by_cases a5 : 7 < v3
  · exact (br_f a0 (br_f a1 (br_f a2 (br_f a3 (xl_isRing (fun _ z => absurd a5 z) (fun _ => br_t rfl (br_f a0 (br_f a1 (br_f a2 (br_f a3 (br_f a4 (br_f (rg_nle.mpr a5) (And.intro rfl I0)))))))))))))
  have g := rg_B7 a4 a5
  have I1 : i_Rel (k + 5) (sl, wl, dl, 1, 0, v3, v1, v2, 0, rg_P 0 0 v3, rg_P 0 0 v3, 0, 0, L, F, R1, R2, R3, GC, GO, W, rg_z H 8, SC, FR) (sl, wl, dl, 1, 0, v3, v1, v2, 0, 0, 0, v3, 0, 0, v3, 0, 0, D, L, F, R1, R2, R3, GC, GO, W, FR, rg_z H 8, SC) := ⟨0, rg_mk ⟨c1, c2, c3, hS, hD, rg_za hH (rg_B0 (by decide)) 8, rg_Fs0, g, rg_D8 c1 a0 a1, rg_Bm (rg_Bl (n := 32) c2 (by decide) a2 (rg_nle.mp a3)) (by decide), rg_B0 (by decide), rg_B0 (by decide), g, rg_B0 (by decide), rg_B0 (by decide), g⟩⟩
  refine (br_f a0 (br_f a1 (br_f a2 (br_f a3 (xl_isRing (fun _ _ => br_f rg_1 ?_) (fun z => absurd ⟨a4, a5⟩ z))))))
  unfold wpX_packPointer
  exact xl_emptyStacks (br_f a0 (br_f a1 (br_f a2 (br_f a3 (br_f a4 (br_t (rg_nl.mp a5) ⟨9, yl_startLoop (H0 := H) (And.intro rfl I1) 8 0 rfl⟩))))))
