/-- the outcome of one instruction: a fault code, or a new state that passes the law's check -/
def pj_Ex (sl wl dl st fa ri si so ac pa pb pc qa qb qc fc cx w : Int32) (L F R1 R2 R3 GC GO W H SC FR : Nat → Int32) : Prop :=
  (∃ c : Int32, ¬ c = 0 ∧ (∀ K : Int32 → St2 → Prop, K c (sl, wl, dl, st, fa, ri, si, so, ac, rg_P pa pb pc, rg_P qa qb qc, fc, cx, L, F, R1, R2, R3, GC, GO, W, H, SC, FR) → wpX_execute K (sl, wl, dl, st, fa, ri, si, so, ac, rg_P pa pb pc, rg_P qa qb qc, fc, cx, L, F, R1, R2, R3, GC, GO, W, H, SC, FR) w)) ∨
  (∃ (sl1 wl1 dl1 st1 fa1 ri1 si1 so1 ac1 pa1 pb1 pc1 qa1 qb1 qc1 fc1 : Int32) (L1 F1 R11 R21 R31 GC1 GO1 W1 H1 SC1 FR1 : Nat → Int32), pj_I sl1 wl1 dl1 ri1 si1 so1 pa1 pb1 pc1 qa1 qb1 qc1 fc1 L1 F1 R11 R21 R31 GC1 H1 FR1 ∧ (∀ K : Int32 → St2 → Prop, K 0 (sl1, wl1, dl1, st1, fa1, ri1, si1, so1, ac1, rg_P pa1 pb1 pc1, rg_P qa1 qb1 qc1, fc1, cx, L1, F1, R11, R21, R31, GC1, GO1, W1, H1, SC1, FR1) → wpX_execute K (sl, wl, dl, st, fa, ri, si, so, ac, rg_P pa pb pc, rg_P qa qb qc, fc, cx, L, F, R1, R2, R3, GC, GO, W, H, SC, FR) w) ∧ ∀ c : Int32, pj_LC sl ri pa pb pc fc L F R1 R2 FR w (sl1, wl1, dl1, st1, fa1, ri1, si1, so1, ac1, rg_P pa1 pb1 pc1, rg_P qa1 qb1 qc1, fc1, c, L1, F1, R11, R21, R31, GC1, GO1, W1, H1, SC1, FR1))
theorem rg_fr1 {FR : Nat → Int32} {n : Nat} {ret ri fl P Q k : Int32} (hn : n < 16) : rg_fr FR (nI n * 6) ret ri fl P Q k (nI n * 6 + 1).toNatClampNeg = ri := by
  have e0 : (nI n * 6 + 0).toNatClampNeg = n * 6 + 0 := rg_c6 (o := 0) hn (by decide)
  have e1 : (nI n * 6 + 1).toNatClampNeg = n * 6 + 1 := rg_c6 (o := 1) hn (by decide)
  have e2 : (nI n * 6 + 2).toNatClampNeg = n * 6 + 2 := rg_c6 (o := 2) hn (by decide)
  have e3 : (nI n * 6 + 3).toNatClampNeg = n * 6 + 3 := rg_c6 (o := 3) hn (by decide)
  have e4 : (nI n * 6 + 4).toNatClampNeg = n * 6 + 4 := rg_c6 (o := 4) hn (by decide)
  have e5 : (nI n * 6 + 5).toNatClampNeg = n * 6 + 5 := rg_c6 (o := 5) hn (by decide)
  unfold rg_fr
  rw [e0, e1, e2, e3, e4, e5, pk_un (by omega), pk_un (by omega), pk_un (by omega), pk_un (by omega), pk_us]
theorem rg_enL {L R1 R2 GC GO : Nat → Int32} {ri s o : Int32} (h : ri ≤ R2 s.toNatClampNeg ∨ rg_G GC GO s o) : ri ≤ rg_en R1 R2 ri s ∨ (rg_en R1 R2 ri s = R2 s.toNatClampNeg ∧ rg_G GC GO s o) := by
  unfold rg_en
  by_cases a : R1 s.toNatClampNeg ≤ ri
  · rw [if_pos a]
    by_cases b : ri ≤ R2 s.toNatClampNeg
    · rw [if_pos b]
      exact Or.inl (Int32.le_refl _)
    · rw [if_neg b]
      exact Or.inr ⟨rfl, h.elim (fun z => absurd z b) id⟩
  · rw [if_neg a]
    exact Or.inl (Int32.le_of_lt (rg_nle.mp a))
section
variable {sl wl dl st fa ri si so ac pa pb pc qa qb qc fc cx w : Int32} {L F R1 R2 R3 GC GO W H SC FR : Nat → Int32}
theorem sp_0 (I : pj_I sl wl dl ri si so pa pb pc qa qb qc fc L F R1 R2 R3 GC H FR) (hl : ¬ L si.toNatClampNeg ≤ so) (hop : ((w).toUInt32 >>> ((16 : Int32).toUInt32 &&& Int32.toUInt32 31)).toInt32 &&& 255 = 0) : pj_Ex sl wl dl st fa ri si so ac pa pb pc qa qb qc fc cx w L F R1 R2 R3 GC GO W H SC FR := by
  obtain ⟨c1, c2, c3, hS, hA, hH, hF, b1, b2, b3, p1, p2, p3, q1, q2, q3⟩ := I
  have b3' := rg_so hS b3 hl
  refine Or.inr ⟨sl, wl, dl, 2, fa, ri, si, so, ac, pa, pb, pc, qa, qb, qc, fc, L, F, R1, R2, R3, GC, GO, W, H, SC, FR, ⟨c1, c2, c3, hS, hA, hH, hF, b1, b2, b3, p1, p2, p3, q1, q2, q3⟩, fun K hK => xe_0 hop hK, fun c => ?_⟩
  intro post LL xs J384 J457 x3 x5 x8 x9 x10 x11 x22 x23 x24 kc ks _ _ _ _ _ _ _ _ _ _ _ _ _ _ _ _ _ _ _ _ _ _ _ _ h22 h23 h24 hp
  unfold pl_885 at hp
  unfold pl_634
  rw [hop]
  exact lp_634 (by decide) (lp_673 (by decide) (Int32.le_refl _) hp)
theorem sp_1 (I : pj_I sl wl dl ri si so pa pb pc qa qb qc fc L F R1 R2 R3 GC H FR) (hl : ¬ L si.toNatClampNeg ≤ so) (hop : ((w).toUInt32 >>> ((16 : Int32).toUInt32 &&& Int32.toUInt32 31)).toInt32 &&& 255 = 1) : pj_Ex sl wl dl st fa ri si so ac pa pb pc qa qb qc fc cx w L F R1 R2 R3 GC GO W H SC FR := by
  obtain ⟨c1, c2, c3, hS, hA, hH, hF, b1, b2, b3, p1, p2, p3, q1, q2, q3⟩ := I
  have b3' := rg_so hS b3 hl
  refine Or.inr ⟨sl, wl, dl, st, fa, ri, si, so + 1, w &&& 65535, pa, pb, pc, qa, qb, qc, fc, L, F, R1, R2, R3, GC, GO, W, H, SC, FR, ⟨c1, c2, c3, hS, hA, hH, hF, b1, b2, b3', p1, p2, p3, q1, q2, q3⟩, fun K hK => xe_1 hop (fun K' hk => xr_1  (hk _ _ _ _ _ _ _ _ _ _ _ _ _ _ _ _ _ _ _ _ _ _ _ _ _ hK)), fun c => ?_⟩
  intro post LL xs J384 J457 x3 x5 x8 x9 x10 x11 x22 x23 x24 kc ks _ _ _ _ _ _ _ _ _ _ _ _ _ _ _ _ _ _ _ _ _ _ _ _ h22 h23 h24 hp
  unfold pl_885 at hp
  unfold pl_634
  rw [hop]
  exact lp_634 (by decide) (lp_673 (by decide) (Int32.le_refl _) hp)
theorem sp_2 (I : pj_I sl wl dl ri si so pa pb pc qa qb qc fc L F R1 R2 R3 GC H FR) (hl : ¬ L si.toNatClampNeg ≤ so) (hop : ((w).toUInt32 >>> ((16 : Int32).toUInt32 &&& Int32.toUInt32 31)).toInt32 &&& 255 = 2) : pj_Ex sl wl dl st fa ri si so ac pa pb pc qa qb qc fc cx w L F R1 R2 R3 GC GO W H SC FR := by
  obtain ⟨c1, c2, c3, hS, hA, hH, hF, b1, b2, b3, p1, p2, p3, q1, q2, q3⟩ := I
  have b3' := rg_so hS b3 hl
  refine Or.inr ⟨sl, wl, dl, st, fa, ri, si, so + 1, ac + (w &&& 65535), pa, pb, pc, qa, qb, qc, fc, L, F, R1, R2, R3, GC, GO, W, H, SC, FR, ⟨c1, c2, c3, hS, hA, hH, hF, b1, b2, b3', p1, p2, p3, q1, q2, q3⟩, fun K hK => xe_2 hop (fun K' hk => xr_2  (hk _ _ _ _ _ _ _ _ _ _ _ _ _ _ _ _ _ _ _ _ _ _ _ _ _ hK)), fun c => ?_⟩
  intro post LL xs J384 J457 x3 x5 x8 x9 x10 x11 x22 x23 x24 kc ks _ _ _ _ _ _ _ _ _ _ _ _ _ _ _ _ _ _ _ _ _ _ _ _ h22 h23 h24 hp
  unfold pl_885 at hp
  unfold pl_634
  rw [hop]
  exact lp_634 (by decide) (lp_673 (by decide) (Int32.le_refl _) hp)
theorem sp_3 (I : pj_I sl wl dl ri si so pa pb pc qa qb qc fc L F R1 R2 R3 GC H FR) (hl : ¬ L si.toNatClampNeg ≤ so) (hop : ((w).toUInt32 >>> ((16 : Int32).toUInt32 &&& Int32.toUInt32 31)).toInt32 &&& 255 = 3) : pj_Ex sl wl dl st fa ri si so ac pa pb pc qa qb qc fc cx w L F R1 R2 R3 GC GO W H SC FR := by
  obtain ⟨c1, c2, c3, hS, hA, hH, hF, b1, b2, b3, p1, p2, p3, q1, q2, q3⟩ := I
  have b3' := rg_so hS b3 hl
  refine Or.inr ⟨sl, wl, dl, st, fa, ri, si, so + 1, ac, ((w).toUInt32 >>> ((8 : Int32).toUInt32 &&& Int32.toUInt32 31)).toInt32 &&& 255, w &&& 255, ri, qa, qb, qc, fc, L, F, R1, R2, R3, GC, GO, W, H, SC, FR, ⟨c1, c2, c3, hS, hA, hH, hF, b1, b2, b3', rg_B255 _, rg_B255 _, b1, q1, q2, q3⟩, fun K hK => xe_3 hop (fun K' hk => xr_3  (hk _ _ _ _ _ _ _ _ _ _ _ _ _ _ _ _ _ _ _ _ _ _ _ _ _ hK)), fun c => ?_⟩
  intro post LL xs J384 J457 x3 x5 x8 x9 x10 x11 x22 x23 x24 kc ks _ _ _ _ _ _ _ _ _ _ _ _ _ _ _ _ _ _ _ _ _ _ _ _ h22 h23 h24 hp
  unfold pl_885 at hp
  unfold pl_634
  rw [hop]
  exact lp_634 (by decide) (lp_673 (by decide) (Int32.le_refl _) hp)
theorem sp_4 (I : pj_I sl wl dl ri si so pa pb pc qa qb qc fc L F R1 R2 R3 GC H FR) (hl : ¬ L si.toNatClampNeg ≤ so) (hop : ((w).toUInt32 >>> ((16 : Int32).toUInt32 &&& Int32.toUInt32 31)).toInt32 &&& 255 = 4) : pj_Ex sl wl dl st fa ri si so ac pa pb pc qa qb qc fc cx w L F R1 R2 R3 GC GO W H SC FR := by
  obtain ⟨c1, c2, c3, hS, hA, hH, hF, b1, b2, b3, p1, p2, p3, q1, q2, q3⟩ := I
  have b3' := rg_so hS b3 hl
  refine Or.inr ⟨sl, wl, dl, st, fa, ri, si, so + 1, ac, pa, (pb + (w &&& 255)) &&& 255, pc, qa, qb, qc, fc, L, F, R1, R2, R3, GC, GO, W, H, SC, FR, ⟨c1, c2, c3, hS, hA, hH, hF, b1, b2, b3', p1, rg_B255 _, p3, q1, q2, q3⟩, fun K hK => xe_4 hop (fun K' hk => xr_4 p1 p2 p3 (hk _ _ _ _ _ _ _ _ _ _ _ _ _ _ _ _ _ _ _ _ _ _ _ _ _ hK)), fun c => ?_⟩
  intro post LL xs J384 J457 x3 x5 x8 x9 x10 x11 x22 x23 x24 kc ks _ _ _ _ _ _ _ _ _ _ _ _ _ _ _ _ _ _ _ _ _ _ _ _ h22 h23 h24 hp
  unfold pl_885 at hp
  unfold pl_634
  rw [hop]
  exact lp_634 (by decide) (lp_673 (by decide) (Int32.le_refl _) hp)
theorem sp_5 (I : pj_I sl wl dl ri si so pa pb pc qa qb qc fc L F R1 R2 R3 GC H FR) (hl : ¬ L si.toNatClampNeg ≤ so) (hop : ((w).toUInt32 >>> ((16 : Int32).toUInt32 &&& Int32.toUInt32 31)).toInt32 &&& 255 = 5) : pj_Ex sl wl dl st fa ri si so ac pa pb pc qa qb qc fc cx w L F R1 R2 R3 GC GO W H SC FR := by
  obtain ⟨c1, c2, c3, hS, hA, hH, hF, b1, b2, b3, p1, p2, p3, q1, q2, q3⟩ := I
  have b3' := rg_so hS b3 hl
  refine Or.inr ⟨sl, wl, dl, st, fa, ri, si, so + 1, ac, qa, qb, qc, pa, pb, pc, fc, L, F, R1, R2, R3, GC, GO, W, H, SC, FR, ⟨c1, c2, c3, hS, hA, hH, hF, b1, b2, b3', q1, q2, q3, p1, p2, p3⟩, fun K hK => xe_5 hop (fun K' hk => xr_5  (hk _ _ _ _ _ _ _ _ _ _ _ _ _ _ _ _ _ _ _ _ _ _ _ _ _ hK)), fun c => ?_⟩
  intro post LL xs J384 J457 x3 x5 x8 x9 x10 x11 x22 x23 x24 kc ks _ _ _ _ _ _ _ _ _ _ _ _ _ _ _ _ _ _ _ _ _ _ _ _ h22 h23 h24 hp
  unfold pl_885 at hp
  unfold pl_634
  rw [hop]
  exact lp_634 (by decide) (lp_673 (by decide) (Int32.le_refl _) hp)
theorem sp_14 (I : pj_I sl wl dl ri si so pa pb pc qa qb qc fc L F R1 R2 R3 GC H FR) (hl : ¬ L si.toNatClampNeg ≤ so) (hop : ((w).toUInt32 >>> ((16 : Int32).toUInt32 &&& Int32.toUInt32 31)).toInt32 &&& 255 = 14) : pj_Ex sl wl dl st fa ri si so ac pa pb pc qa qb qc fc cx w L F R1 R2 R3 GC GO W H SC FR := by
  obtain ⟨c1, c2, c3, hS, hA, hH, hF, b1, b2, b3, p1, p2, p3, q1, q2, q3⟩ := I
  have b3' := rg_so hS b3 hl
  refine Or.inr ⟨sl, wl, dl, st, fa, ri, si, so + 1, ri, pa, pb, pc, qa, qb, qc, fc, L, F, R1, R2, R3, GC, GO, W, H, SC, FR, ⟨c1, c2, c3, hS, hA, hH, hF, b1, b2, b3', p1, p2, p3, q1, q2, q3⟩, fun K hK => xe_14 hop (fun K' hk => xr_14  (hk _ _ _ _ _ _ _ _ _ _ _ _ _ _ _ _ _ _ _ _ _ _ _ _ _ hK)), fun c => ?_⟩
  intro post LL xs J384 J457 x3 x5 x8 x9 x10 x11 x22 x23 x24 kc ks _ _ _ _ _ _ _ _ _ _ _ _ _ _ _ _ _ _ _ _ _ _ _ _ h22 h23 h24 hp
  unfold pl_885 at hp
  unfold pl_634
  rw [hop]
  exact lp_634 (by decide) (lp_673 (by decide) (Int32.le_refl _) hp)
theorem sp_15 (I : pj_I sl wl dl ri si so pa pb pc qa qb qc fc L F R1 R2 R3 GC H FR) (hl : ¬ L si.toNatClampNeg ≤ so) (hop : ((w).toUInt32 >>> ((16 : Int32).toUInt32 &&& Int32.toUInt32 31)).toInt32 &&& 255 = 15) : pj_Ex sl wl dl st fa ri si so ac pa pb pc qa qb qc fc cx w L F R1 R2 R3 GC GO W H SC FR := by
  obtain ⟨c1, c2, c3, hS, hA, hH, hF, b1, b2, b3, p1, p2, p3, q1, q2, q3⟩ := I
  have b3' := rg_so hS b3 hl
  refine Or.inr ⟨sl, wl, dl, st, fa, ri, si, so + 1, pc, pa, pb, pc, qa, qb, qc, fc, L, F, R1, R2, R3, GC, GO, W, H, SC, FR, ⟨c1, c2, c3, hS, hA, hH, hF, b1, b2, b3', p1, p2, p3, q1, q2, q3⟩, fun K hK => xe_15 hop (fun K' hk => xr_15 p1 p2 p3 (hk _ _ _ _ _ _ _ _ _ _ _ _ _ _ _ _ _ _ _ _ _ _ _ _ _ hK)), fun c => ?_⟩
  intro post LL xs J384 J457 x3 x5 x8 x9 x10 x11 x22 x23 x24 kc ks _ _ _ _ _ _ _ _ _ _ _ _ _ _ _ _ _ _ _ _ _ _ _ _ h22 h23 h24 hp
  unfold pl_885 at hp
  unfold pl_634
  rw [hop]
  exact lp_634 (by decide) (lp_673 (by decide) (Int32.le_refl _) hp)
theorem sp_10 (I : pj_I sl wl dl ri si so pa pb pc qa qb qc fc L F R1 R2 R3 GC H FR) (hl : ¬ L si.toNatClampNeg ≤ so) (hop : ((w).toUInt32 >>> ((16 : Int32).toUInt32 &&& Int32.toUInt32 31)).toInt32 &&& 255 = 10) : pj_Ex sl wl dl st fa ri si so ac pa pb pc qa qb qc fc cx w L F R1 R2 R3 GC GO W H SC FR := by
  obtain ⟨c1, c2, c3, hS, hA, hH, hF, b1, b2, b3, p1, p2, p3, q1, q2, q3⟩ := I
  have b3' := rg_so hS b3 hl
  refine Or.inr ⟨sl, wl, dl, st, fa, ri, si, w &&& 255, ac, pa, pb, pc, qa, qb, qc, fc, L, F, R1, R2, R3, GC, GO, W, H, SC, FR, ⟨c1, c2, c3, hS, hA, hH, hF, b1, b2, rg_B255 _, p1, p2, p3, q1, q2, q3⟩, fun K hK => xe_10 hop hK, fun c => ?_⟩
  intro post LL xs J384 J457 x3 x5 x8 x9 x10 x11 x22 x23 x24 kc ks _ _ _ _ _ _ _ _ _ _ _ _ _ _ _ _ _ _ _ _ _ _ _ _ h22 h23 h24 hp
  unfold pl_885 at hp
  unfold pl_634
  rw [hop]
  exact lp_634 (by decide) (lp_673 (by decide) (Int32.le_refl _) hp)
theorem sp_11 (I : pj_I sl wl dl ri si so pa pb pc qa qb qc fc L F R1 R2 R3 GC H FR) (hl : ¬ L si.toNatClampNeg ≤ so) (hop : ((w).toUInt32 >>> ((16 : Int32).toUInt32 &&& Int32.toUInt32 31)).toInt32 &&& 255 = 11) : pj_Ex sl wl dl st fa ri si so ac pa pb pc qa qb qc fc cx w L F R1 R2 R3 GC GO W H SC FR := by
  obtain ⟨c1, c2, c3, hS, hA, hH, hF, b1, b2, b3, p1, p2, p3, q1, q2, q3⟩ := I
  have b3' := rg_so hS b3 hl
  by_cases h : ac = 0
  · refine Or.inr ⟨sl, wl, dl, st, fa, ri, si, w &&& 255, ac, pa, pb, pc, qa, qb, qc, fc, L, F, R1, R2, R3, GC, GO, W, H, SC, FR, ⟨c1, c2, c3, hS, hA, hH, hF, b1, b2, rg_B255 _, p1, p2, p3, q1, q2, q3⟩, fun K hK => xe_11 hop (fun _ => hK) (fun z => absurd h z), fun c => ?_⟩
    intro post LL xs J384 J457 x3 x5 x8 x9 x10 x11 x22 x23 x24 kc ks _ _ _ _ _ _ _ _ _ _ _ _ _ _ _ _ _ _ _ _ _ _ _ _ h22 h23 h24 hp
    unfold pl_885 at hp
    unfold pl_634
    rw [hop]
    exact lp_634 (by decide) (lp_673 (by decide) (Int32.le_refl _) hp)
  · refine Or.inr ⟨sl, wl, dl, st, fa, ri, si, so + 1, ac, pa, pb, pc, qa, qb, qc, fc, L, F, R1, R2, R3, GC, GO, W, H, SC, FR, ⟨c1, c2, c3, hS, hA, hH, hF, b1, b2, b3', p1, p2, p3, q1, q2, q3⟩, fun K hK => xe_11 hop (fun z => absurd z h) (fun _ => hK), fun c => ?_⟩
    intro post LL xs J384 J457 x3 x5 x8 x9 x10 x11 x22 x23 x24 kc ks _ _ _ _ _ _ _ _ _ _ _ _ _ _ _ _ _ _ _ _ _ _ _ _ h22 h23 h24 hp
    unfold pl_885 at hp
    unfold pl_634
    rw [hop]
    exact lp_634 (by decide) (lp_673 (by decide) (Int32.le_refl _) hp)
theorem sp_6 (I : pj_I sl wl dl ri si so pa pb pc qa qb qc fc L F R1 R2 R3 GC H FR) (hl : ¬ L si.toNatClampNeg ≤ so) (hop : ((w).toUInt32 >>> ((16 : Int32).toUInt32 &&& Int32.toUInt32 31)).toInt32 &&& 255 = 6) : pj_Ex sl wl dl st fa ri si so ac pa pb pc qa qb qc fc cx w L F R1 R2 R3 GC GO W H SC FR := by
  obtain ⟨c1, c2, c3, hS, hA, hH, hF, b1, b2, b3, p1, p2, p3, q1, q2, q3⟩ := I
  have b3' := rg_so hS b3 hl
  by_cases hd : rg_D sl L pa
  · by_cases hb : L pa.toNatClampNeg ≤ pb
    · exact Or.inl ⟨2, by decide, fun K hK => xe_6 hop (fun K' hk => xl_load c1 hS p1 p2 p3 (fun z => absurd hd z) (fun _ _ => (hk _ _ _ _ _ _ _ _ _ _ _ _ _ _ _ _ _ _ _ _ _ _ _ _ _ hK)) (fun _ z => absurd hb z) (fun _ z => absurd hb z))⟩
    · by_cases hm : rg_MR F R2 pa (rg_mx ri pc)
      · have hw : rg_W sl L pa pb := ⟨hd, rg_Bn p2 (by decide), hb⟩
        refine Or.inr ⟨sl, wl, dl, st, fa, ri, si, so + 1, W (pa * 32 + pb).toNatClampNeg, pa, pb, pc, qa, qb, qc, fc, L, F, R1, R2, R3, GC, GO, W, H, SC, FR, ⟨c1, c2, c3, hS, hA, hH, hF, b1, b2, b3', p1, p2, p3, q1, q2, q3⟩, fun K hK => xe_6 hop (fun K' hk => xl_load c1 hS p1 p2 p3 (fun z => absurd hd z) (fun _ z => absurd z hb) (fun _ _ z => absurd hm z) (fun _ _ _ => (hk _ _ _ _ _ _ _ _ _ _ _ _ _ _ _ _ _ _ _ _ _ _ _ _ _ hK))), fun c => ?_⟩
        intro post LL xs J384 J457 x3 x5 x8 x9 x10 x11 x22 x23 x24 kc ks _ _ _ _ _ _ _ _ _ _ _ _ _ _ _ _ _ _ _ _ _ _ _ _ h22 h23 h24 hp
        unfold pl_885 at hp
        unfold pl_634
        rw [hop]
        exact lp_ld c1 hS hw (h22 hw hm) rfl (Int32.le_refl _) hp
      · exact Or.inl ⟨4, by decide, fun K hK => xe_6 hop (fun K' hk => xl_load c1 hS p1 p2 p3 (fun z => absurd hd z) (fun _ z => absurd z hb) (fun _ _ _ => (hk _ _ _ _ _ _ _ _ _ _ _ _ _ _ _ _ _ _ _ _ _ _ _ _ _ hK)) (fun _ _ z => absurd z hm))⟩
  · exact Or.inl ⟨1, by decide, fun K hK => xe_6 hop (fun K' hk => xl_load c1 hS p1 p2 p3 (fun _ => (hk _ _ _ _ _ _ _ _ _ _ _ _ _ _ _ _ _ _ _ _ _ _ _ _ _ hK)) (fun z => absurd z hd) (fun z => absurd z hd) (fun z => absurd z hd))⟩
theorem sp_7 (I : pj_I sl wl dl ri si so pa pb pc qa qb qc fc L F R1 R2 R3 GC H FR) (hl : ¬ L si.toNatClampNeg ≤ so) (hop : ((w).toUInt32 >>> ((16 : Int32).toUInt32 &&& Int32.toUInt32 31)).toInt32 &&& 255 = 7) : pj_Ex sl wl dl st fa ri si so ac pa pb pc qa qb qc fc cx w L F R1 R2 R3 GC GO W H SC FR := by
  obtain ⟨c1, c2, c3, hS, hA, hH, hF, b1, b2, b3, p1, p2, p3, q1, q2, q3⟩ := I
  have b3' := rg_so hS b3 hl
  by_cases hd : rg_D sl L pa
  · by_cases hb : L pa.toNatClampNeg ≤ pb
    · exact Or.inl ⟨2, by decide, fun K hK => xe_7 hop (fun K' hk => xl_store c1 hS p1 p2 p3 (fun z => absurd hd z) (fun _ _ => (hk _ _ _ _ _ _ _ _ _ _ _ _ _ _ _ _ _ _ _ _ _ _ _ _ _ hK)) (fun _ z => absurd hb z) (fun _ z => absurd hb z))⟩
    · by_cases hm : rg_MW F R1 pa (rg_mx ri pc)
      · have hw : rg_W sl L pa pb := ⟨hd, rg_Bn p2 (by decide), hb⟩
        refine Or.inr ⟨sl, wl, dl, st, fa, ri, si, so + 1, ac, pa, pb, pc, qa, qb, qc, fc, L, F, R1, R2, R3, GC, GO, upd W (pa * 32 + pb).toNatClampNeg ac, H, SC, FR, ⟨c1, c2, c3, hS, hA, hH, hF, b1, b2, b3', p1, p2, p3, q1, q2, q3⟩, fun K hK => xe_7 hop (fun K' hk => xl_store c1 hS p1 p2 p3 (fun z => absurd hd z) (fun _ z => absurd z hb) (fun _ _ z => absurd hm z) (fun _ _ _ => (hk _ _ _ _ _ _ _ _ _ _ _ _ _ _ _ _ _ _ _ _ _ _ _ _ _ hK))), fun c => ?_⟩
        intro post LL xs J384 J457 x3 x5 x8 x9 x10 x11 x22 x23 x24 kc ks _ _ _ _ _ _ _ _ _ _ _ _ _ _ _ _ _ _ _ _ _ _ _ _ h22 h23 h24 hp
        unfold pl_885 at hp
        unfold pl_634
        rw [hop]
        exact lp_st c1 hS hw (h23 hw hm) pk_us (Int32.le_refl _) hp
      · exact Or.inl ⟨5, by decide, fun K hK => xe_7 hop (fun K' hk => xl_store c1 hS p1 p2 p3 (fun z => absurd hd z) (fun _ z => absurd z hb) (fun _ _ _ => (hk _ _ _ _ _ _ _ _ _ _ _ _ _ _ _ _ _ _ _ _ _ _ _ _ _ hK)) (fun _ _ z => absurd z hm))⟩
  · exact Or.inl ⟨1, by decide, fun K hK => xe_7 hop (fun K' hk => xl_store c1 hS p1 p2 p3 (fun _ => (hk _ _ _ _ _ _ _ _ _ _ _ _ _ _ _ _ _ _ _ _ _ _ _ _ _ hK)) (fun z => absurd z hd) (fun z => absurd z hd) (fun z => absurd z hd))⟩
theorem sp_8 (I : pj_I sl wl dl ri si so pa pb pc qa qb qc fc L F R1 R2 R3 GC H FR) (hl : ¬ L si.toNatClampNeg ≤ so) (hop : ((w).toUInt32 >>> ((16 : Int32).toUInt32 &&& Int32.toUInt32 31)).toInt32 &&& 255 = 8) : pj_Ex sl wl dl st fa ri si so ac pa pb pc qa qb qc fc cx w L F R1 R2 R3 GC GO W H SC FR := by
  obtain ⟨c1, c2, c3, hS, hA, hH, hF, b1, b2, b3, p1, p2, p3, q1, q2, q3⟩ := I
  have b3' := rg_so hS b3 hl
  by_cases h : H ri.toNatClampNeg < dl
  · have hh : rg_B 17 (H ri.toNatClampNeg + 1) := rg_Bs (rg_Bl (n := 16) c3 (by decide) (rg_Bn (hH _) (by decide)) h)
    refine Or.inr ⟨sl, wl, dl, st, fa, ri, si, so + 1, ac, pa, pb, pc, qa, qb, qc, fc, L, F, R1, R2, R3, GC, GO, W, upd H ri.toNatClampNeg (H ri.toNatClampNeg + 1), upd SC (ri * 16 + H ri.toNatClampNeg).toNatClampNeg ac, FR, ⟨c1, c2, c3, hS, hA, rg_au hH hh, hF, b1, b2, b3', p1, p2, p3, q1, q2, q3⟩, fun K hK => xe_8 hop (fun K' hk => xl_push b1 c3 hH (fun z => absurd h z) (fun _ => (hk _ _ _ _ _ _ _ _ _ _ _ _ _ _ _ _ _ _ _ _ _ _ _ _ _ hK))), fun c => ?_⟩
    intro post LL xs J384 J457 x3 x5 x8 x9 x10 x11 x22 x23 x24 kc ks _ _ _ _ _ _ _ _ _ _ _ _ _ _ _ _ _ _ _ _ _ _ _ _ h22 h23 h24 hp
    unfold pl_885 at hp
    unfold pl_634
    rw [hop]
    exact lp_634 (by decide) (lp_673 (by decide) (Int32.le_refl _) hp)
  · exact Or.inl ⟨8, by decide, fun K hK => xe_8 hop (fun K' hk => xl_push b1 c3 hH (fun _ => (hk _ _ _ _ _ _ _ _ _ _ _ _ _ _ _ _ _ _ _ _ _ _ _ _ _ hK)) (fun z => absurd z h))⟩
theorem sp_9 (I : pj_I sl wl dl ri si so pa pb pc qa qb qc fc L F R1 R2 R3 GC H FR) (hl : ¬ L si.toNatClampNeg ≤ so) (hop : ((w).toUInt32 >>> ((16 : Int32).toUInt32 &&& Int32.toUInt32 31)).toInt32 &&& 255 = 9) : pj_Ex sl wl dl st fa ri si so ac pa pb pc qa qb qc fc cx w L F R1 R2 R3 GC GO W H SC FR := by
  obtain ⟨c1, c2, c3, hS, hA, hH, hF, b1, b2, b3, p1, p2, p3, q1, q2, q3⟩ := I
  have b3' := rg_so hS b3 hl
  by_cases h : rg_fl fc FR < H ri.toNatClampNeg
  · have hh : rg_B 17 (H ri.toNatClampNeg - 1) := by
      obtain ⟨f, hf, ef⟩ := rg_flB hF
      obtain ⟨t, ht, et⟩ := hH ri.toNatClampNeg
      rw [ef, et, nI_ltI (by omega) (by omega)] at h
      obtain ⟨m, rfl⟩ : ∃ m, t = m + 1 := ⟨t - 1, by omega⟩
      rw [et, nI_pred]
      exact ⟨m, by omega, rfl⟩
    refine Or.inr ⟨sl, wl, dl, st, fa, ri, si, so + 1, SC (ri * 16 + (H ri.toNatClampNeg - 1)).toNatClampNeg, pa, pb, pc, qa, qb, qc, fc, L, F, R1, R2, R3, GC, GO, W, upd H ri.toNatClampNeg (H ri.toNatClampNeg - 1), SC, FR, ⟨c1, c2, c3, hS, hA, rg_au hH hh, hF, b1, b2, b3', p1, p2, p3, q1, q2, q3⟩, fun K hK => xe_9 hop (fun K' hk => xl_pop b1 hH hF (fun z => absurd h z) (fun _ _ => hk _ _ _ _ _ _ _ _ _ _ _ _ _ _ _ _ _ _ _ _ _ _ _ _ _ hK)), fun c => ?_⟩
    intro post LL xs J384 J457 x3 x5 x8 x9 x10 x11 x22 x23 x24 kc ks _ _ _ _ _ _ _ _ _ _ _ _ _ _ _ _ _ _ _ _ _ _ _ _ h22 h23 h24 hp
    unfold pl_885 at hp
    unfold pl_634
    rw [hop]
    exact lp_634 (by decide) (lp_673 (by decide) (Int32.le_refl _) hp)
  · exact Or.inl ⟨8, by decide, fun K hK => xe_9 hop (fun K' hk => xl_pop b1 hH hF (fun _ => hk _ _ _ _ _ _ _ _ _ _ _ _ _ _ _ _ _ _ _ _ _ _ _ _ _ hK) (fun z => absurd z h))⟩
theorem sp_12 (I : pj_I sl wl dl ri si so pa pb pc qa qb qc fc L F R1 R2 R3 GC H FR) (hl : ¬ L si.toNatClampNeg ≤ so) (hop : ((w).toUInt32 >>> ((16 : Int32).toUInt32 &&& Int32.toUInt32 31)).toInt32 &&& 255 = 12) : pj_Ex sl wl dl st fa ri si so ac pa pb pc qa qb qc fc cx w L F R1 R2 R3 GC GO W H SC FR := by
  obtain ⟨c1, c2, c3, hS, hA, hH, hF, b1, b2, b3, p1, p2, p3, q1, q2, q3⟩ := I
  have b3' := rg_so hS b3 hl
  have b32 := rg_O32 hS _ (rg_Bn b3 (by decide)) hl
  by_cases hd : rg_D sl L (((w).toUInt32 >>> ((8 : Int32).toUInt32 &&& Int32.toUInt32 31)).toInt32 &&& 255)
  · by_cases hb : L (((w).toUInt32 >>> ((8 : Int32).toUInt32 &&& Int32.toUInt32 31)).toInt32 &&& 255).toNatClampNeg ≤ w &&& 255
    · exact Or.inl ⟨2, by decide, fun K hK => xe_12 hop (fun K' hk => xl_call c1 hS b1 hF c3 p1 p2 p3 q1 q2 q3 (fun z => absurd hd z) (fun _ _ => (hk _ _ _ _ _ _ _ _ _ _ _ _ _ _ _ _ _ _ _ _ _ _ _ _ _ hK)) (fun _ z => absurd hb z) (fun _ z => absurd hb z) (fun _ z => absurd hb z) (fun _ z => absurd hb z))⟩
    · by_cases hm : rg_MC F R3 (((w).toUInt32 >>> ((8 : Int32).toUInt32 &&& Int32.toUInt32 31)).toInt32 &&& 255) ri
      · by_cases hg : ri ≤ R2 (((w).toUInt32 >>> ((8 : Int32).toUInt32 &&& Int32.toUInt32 31)).toInt32 &&& 255).toNatClampNeg ∨ rg_G GC GO (((w).toUInt32 >>> ((8 : Int32).toUInt32 &&& Int32.toUInt32 31)).toInt32 &&& 255) (w &&& 255)
        · by_cases hf : fc < dl
          · have hF2 := hF
            obtain ⟨n, hn17, rfl, _⟩ := hF2
            have hn : n < 16 := by
              obtain ⟨d, hd2, ed⟩ := c3
              rw [ed, nI_ltI (by omega) (by omega)] at hf
              omega
            refine Or.inr ⟨sl, wl, dl, st, fa, rg_en R1 R2 ri (((w).toUInt32 >>> ((8 : Int32).toUInt32 &&& Int32.toUInt32 31)).toInt32 &&& 255), ((w).toUInt32 >>> ((8 : Int32).toUInt32 &&& Int32.toUInt32 31)).toInt32 &&& 255, w &&& 255, ac, pa, pb, rg_mx ri pc, qa, qb, rg_mx ri qc, nI n + 1, L, F, R1, R2, R3, GC, GO, W, H, SC, rg_fr FR (nI n * 6) (si * 256 + so + 1) ri (H (rg_en R1 R2 ri (((w).toUInt32 >>> ((8 : Int32).toUInt32 &&& Int32.toUInt32 31)).toInt32 &&& 255)).toNatClampNeg) (rg_P pa pb pc) (rg_P qa qb qc) (rg_en R1 R2 ri (((w).toUInt32 >>> ((8 : Int32).toUInt32 &&& Int32.toUInt32 31)).toInt32 &&& 255)), ⟨c1, c2, c3, hS, hA, hH, rg_FsC hF c3 hf b2 b32 b1 (hH _) (rg_Pm p1 p2 p3) (rg_Pm q1 q2 q3), rg_en8 hS b1, rg_D8' c1 hd, rg_B255 _, p1, p2, rg_mx8 b1 p3, q1, q2, rg_mx8 b1 q3⟩, fun K hK => xe_12 hop (fun K' hk => xl_call c1 hS b1 hF c3 p1 p2 p3 q1 q2 q3 (fun z => absurd hd z) (fun _ z => absurd z hb) (fun _ _ z => absurd hm z) (fun _ _ _ y z => absurd (hg.elim (fun t => absurd t y) id) z) (fun _ _ _ _ z => absurd hf z) (fun _ _ _ _ _ => (hk _ _ _ _ _ _ _ _ _ _ _ _ _ _ _ _ _ _ _ _ _ _ _ _ _ hK))), fun c => ?_⟩
            intro post LL xs J384 J457 x3 x5 x8 x9 x10 x11 x22 x23 x24 kc ks _ _ _ _ _ _ _ _ _ _ _ _ _ _ _ _ _ _ _ _ _ _ _ _ h22 h23 h24 hp
            unfold pl_885 at hp
            unfold pl_634
            rw [hop]
            exact lp_call hn c1 hS hA hd (rg_B255 _) (rg_fr1 hn) (rg_enL (L := L) hg) hp
          · exact Or.inl ⟨9, by decide, fun K hK => xe_12 hop (fun K' hk => xl_call c1 hS b1 hF c3 p1 p2 p3 q1 q2 q3 (fun z => absurd hd z) (fun _ z => absurd z hb) (fun _ _ z => absurd hm z) (fun _ _ _ y z => absurd (hg.elim (fun t => absurd t y) id) z) (fun _ _ _ _ _ => (hk _ _ _ _ _ _ _ _ _ _ _ _ _ _ _ _ _ _ _ _ _ _ _ _ _ hK)) (fun _ _ _ _ z => absurd z hf))⟩
        · exact Or.inl ⟨7, by decide, fun K hK => xe_12 hop (fun K' hk => xl_call c1 hS b1 hF c3 p1 p2 p3 q1 q2 q3 (fun z => absurd hd z) (fun _ z => absurd z hb) (fun _ _ z => absurd hm z) (fun _ _ _ _ _ => (hk _ _ _ _ _ _ _ _ _ _ _ _ _ _ _ _ _ _ _ _ _ _ _ _ _ hK)) (fun _ _ _ z => absurd z hg) (fun _ _ _ z => absurd z hg))⟩
      · exact Or.inl ⟨6, by decide, fun K hK => xe_12 hop (fun K' hk => xl_call c1 hS b1 hF c3 p1 p2 p3 q1 q2 q3 (fun z => absurd hd z) (fun _ z => absurd z hb) (fun _ _ _ => (hk _ _ _ _ _ _ _ _ _ _ _ _ _ _ _ _ _ _ _ _ _ _ _ _ _ hK)) (fun _ _ z => absurd z hm) (fun _ _ z => absurd z hm) (fun _ _ z => absurd z hm))⟩
  · exact Or.inl ⟨1, by decide, fun K hK => xe_12 hop (fun K' hk => xl_call c1 hS b1 hF c3 p1 p2 p3 q1 q2 q3 (fun _ => (hk _ _ _ _ _ _ _ _ _ _ _ _ _ _ _ _ _ _ _ _ _ _ _ _ _ hK)) (fun z => absurd z hd) (fun z => absurd z hd) (fun z => absurd z hd) (fun z => absurd z hd) (fun z => absurd z hd))⟩
theorem sp_13 (I : pj_I sl wl dl ri si so pa pb pc qa qb qc fc L F R1 R2 R3 GC H FR) (hl : ¬ L si.toNatClampNeg ≤ so) (hop : ((w).toUInt32 >>> ((16 : Int32).toUInt32 &&& Int32.toUInt32 31)).toInt32 &&& 255 = 13) : pj_Ex sl wl dl st fa ri si so ac pa pb pc qa qb qc fc cx w L F R1 R2 R3 GC GO W H SC FR := by
  obtain ⟨c1, c2, c3, hS, hA, hH, hF, b1, b2, b3, p1, p2, p3, q1, q2, q3⟩ := I
  have b3' := rg_so hS b3 hl
  by_cases h : fc = 0
  · exact Or.inl ⟨9, by decide, fun K hK => xe_13 hop (fun K' hk => xl_ret b1 hF (fun _ => hk _ _ _ _ _ _ _ _ _ _ _ _ _ _ _ _ _ _ _ _ _ _ _ _ _ hK) (fun z => absurd h z))⟩
  · obtain ⟨f, hf, e1, e2, h6, hc, hg⟩ := rg_fB hF h
    obtain ⟨⟨a, b, ha, hb, hr⟩, g1, g2, ⟨pa1, pb1, pc1, u1, u2, u3, eP⟩, ⟨qa1, qb1, qc1, w1, w2, w3, eQ⟩⟩ := h6
    have k0 : FR ((fc - 1) * 6 + 0).toNatClampNeg = a * 256 + b := (congrArg FR (hc 0 (by decide))).trans hr
    have k1 : rg_B 8 (FR ((fc - 1) * 6 + 1).toNatClampNeg) := by
      have e := hc 1 (by decide)
      rw [show (nI 1) = 1 from rfl] at e
      rw [e]; exact g1
    have k2 : rg_B 17 (FR ((fc - 1) * 6 + 2).toNatClampNeg) := by
      have e := hc 2 (by decide)
      rw [show (nI 2) = 2 from rfl] at e
      rw [e]; exact g2
    have k3 : FR ((fc - 1) * 6 + 3).toNatClampNeg = rg_P pa1 pb1 pc1 := (congrArg FR (hc 3 (by decide))).trans eP
    have k4 : FR ((fc - 1) * 6 + 4).toNatClampNeg = rg_P qa1 qb1 qc1 := (congrArg FR (hc 4 (by decide))).trans eQ
    have hx : ∀ K : Int32 → St2 → Prop, K 0 (sl, wl, dl, st, fa, FR ((fc - 1) * 6 + 1).toNatClampNeg, a, b, ac, rg_P pa1 pb1 pc1, rg_P qa1 qb1 qc1, fc - 1, cx, L, F, R1, R2, R3, GC, GO, W, upd H ri.toNatClampNeg (FR ((fc - 1) * 6 + 2).toNatClampNeg), SC, FR) → wpX_execute K (sl, wl, dl, st, fa, ri, si, so, ac, rg_P pa pb pc, rg_P qa qb qc, fc, cx, L, F, R1, R2, R3, GC, GO, W, H, SC, FR) w := by
      intro K hK
      refine xe_13 hop (fun K' hk => xl_ret b1 hF (fun z => absurd z h) (fun _ => ?_))
      rw [k0, rg_rR ha hb, rg_rD ha hb, k3, k4]
      exact hk _ _ _ _ _ _ _ _ _ _ _ _ _ _ _ _ _ _ _ _ _ _ _ _ _ hK
    refine Or.inr ⟨sl, wl, dl, st, fa, FR ((fc - 1) * 6 + 1).toNatClampNeg, a, b, ac, pa1, pb1, pc1, qa1, qb1, qc1, fc - 1, L, F, R1, R2, R3, GC, GO, W, upd H ri.toNatClampNeg (FR ((fc - 1) * 6 + 2).toNatClampNeg), SC, FR, ⟨c1, c2, c3, hS, hA, rg_au hH k2, rg_FsR hF h, k1, ha, hb, u1, u2, u3, w1, w2, w3⟩, fun K hK => hx K hK, fun c => ?_⟩
    intro post LL xs J384 J457 x3 x5 x8 x9 x10 x11 x22 x23 x24 kc ks _ _ _ _ _ _ _ _ _ _ _ _ _ _ _ _ _ _ _ _ _ _ _ _ h22 h23 h24 hp
    unfold pl_885 at hp
    unfold pl_634
    rw [hop]
    exact lp_ret rfl (h24 h).symm hp
theorem sp_d (I : pj_I sl wl dl ri si so pa pb pc qa qb qc fc L F R1 R2 R3 GC H FR) (hl : ¬ L si.toNatClampNeg ≤ so) (n : Nat) (hn : 15 < n) (hn2 : n < 256) (hop : ((w).toUInt32 >>> ((16 : Int32).toUInt32 &&& Int32.toUInt32 31)).toInt32 &&& 255 = nI n) : pj_Ex sl wl dl st fa ri si so ac pa pb pc qa qb qc fc cx w L F R1 R2 R3 GC GO W H SC FR := by
  have h15 : (15 : Int32) < nI n := nI_lt (a := 15) hn (by omega)
  have h13 : (13 : Int32) < nI n := nI_lt (a := 13) (by omega) (by omega)
  have h1 : ¬ nI n < (1 : Int32) := nI_nlt (b := 1) (by omega) (by omega)
  have h0 : ¬ nI n < (0 : Int32) := nI_pos (by omega)
  exact Or.inl ⟨10, by decide, fun K hK => xe_d (by rw [hop]; exact h0) (by rw [hop]; exact h1) (by rw [hop]; exact h13) (by rw [hop]; exact h15) hK⟩
theorem sp_all (I : pj_I sl wl dl ri si so pa pb pc qa qb qc fc L F R1 R2 R3 GC H FR) (hl : ¬ L si.toNatClampNeg ≤ so) : pj_Ex sl wl dl st fa ri si so ac pa pb pc qa qb qc fc cx w L F R1 R2 R3 GC GO W H SC FR := by
  obtain ⟨n, hn, hop⟩ := rg_B255 ((w.toUInt32 >>> ((16 : Int32).toUInt32 &&& Int32.toUInt32 31)).toInt32)
  have hc : n = 0 ∨ n = 1 ∨ n = 2 ∨ n = 3 ∨ n = 4 ∨ n = 5 ∨ n = 6 ∨ n = 7 ∨ n = 8 ∨ n = 9 ∨ n = 10 ∨ n = 11 ∨ n = 12 ∨ n = 13 ∨ n = 14 ∨ n = 15 ∨ 15 < n := by omega
  rcases hc with rfl | rfl | rfl | rfl | rfl | rfl | rfl | rfl | rfl | rfl | rfl | rfl | rfl | rfl | rfl | rfl | hn
  · exact sp_0 I hl hop
  · exact sp_1 I hl hop
  · exact sp_2 I hl hop
  · exact sp_3 I hl hop
  · exact sp_4 I hl hop
  · exact sp_5 I hl hop
  · exact sp_6 I hl hop
  · exact sp_7 I hl hop
  · exact sp_8 I hl hop
  · exact sp_9 I hl hop
  · exact sp_10 I hl hop
  · exact sp_11 I hl hop
  · exact sp_12 I hl hop
  · exact sp_13 I hl hop
  · exact sp_14 I hl hop
  · exact sp_15 I hl hop
  · exact sp_d I hl n hn (by omega) hop
theorem sp_take (I : pj_I sl wl dl ri si so pa pb pc qa qb qc fc L F R1 R2 R3 GC H FR) : (∃ c : Int32, ∀ q : Int32 → St2 → Prop, q 0 (sl, wl, dl, 3, c, ri, si, so, ac, rg_P pa pb pc, rg_P qa qb qc, fc, cx, L, F, R1, R2, R3, GC, GO, W, H, SC, FR) → wpX_takeStep q (sl, wl, dl, st, fa, ri, si, so, ac, rg_P pa pb pc, rg_P qa qb qc, fc, cx, L, F, R1, R2, R3, GC, GO, W, H, SC, FR)) ∨
  (rg_W sl L si so ∧ ∃ (sl1 wl1 dl1 st1 fa1 ri1 si1 so1 ac1 pa1 pb1 pc1 qa1 qb1 qc1 fc1 cx1 : Int32) (L1 F1 R11 R21 R31 GC1 GO1 W1 H1 SC1 FR1 : Nat → Int32), pj_I sl1 wl1 dl1 ri1 si1 so1 pa1 pb1 pc1 qa1 qb1 qc1 fc1 L1 F1 R11 R21 R31 GC1 H1 FR1 ∧ (∀ q : Int32 → St2 → Prop, q 1 (sl1, wl1, dl1, st1, fa1, ri1, si1, so1, ac1, rg_P pa1 pb1 pc1, rg_P qa1 qb1 qc1, fc1, cx1, L1, F1, R11, R21, R31, GC1, GO1, W1, H1, SC1, FR1) → wpX_takeStep q (sl, wl, dl, st, fa, ri, si, so, ac, rg_P pa pb pc, rg_P qa qb qc, fc, cx, L, F, R1, R2, R3, GC, GO, W, H, SC, FR)) ∧ pj_LC sl ri pa pb pc fc L F R1 R2 FR (W (si * 32 + so).toNatClampNeg) (sl1, wl1, dl1, st1, fa1, ri1, si1, so1, ac1, rg_P pa1 pb1 pc1, rg_P qa1 qb1 qc1, fc1, cx1, L1, F1, R11, R21, R31, GC1, GO1, W1, H1, SC1, FR1)) := by
  have I0 := I
  obtain ⟨c1, c2, c3, hS, hA, hH, hF, b1, b2, b3, p1, p2, p3, q1, q2, q3⟩ := I
  by_cases hd : rg_D sl L si
  · by_cases hl : L si.toNatClampNeg ≤ so
    · exact Or.inl ⟨2, fun q hq => xs_pre c1 hS b3 (fun z => absurd hd z) (fun _ _ => hq) (fun _ z => absurd hl z) (fun _ z => absurd hl z)⟩
    · by_cases hx : rg_MX F R1 R2 si ri
      · rcases sp_all (cx := cx) (st := st) (fa := fa) (ac := ac) (GO := GO) (W := W) (SC := SC) (w := W (si * 32 + so).toNatClampNeg) I0 hl with ⟨c, hc, hX⟩ | ⟨sl1, wl1, dl1, st1, fa1, ri1, si1, so1, ac1, pa1, pb1, pc1, qa1, qb1, qc1, fc1, L1, F1, R11, R21, R31, GC1, GO1, W1, H1, SC1, FR1, I1, hX, hC⟩
        · exact Or.inl ⟨c, fun q hq => xs_pre c1 hS b3 (fun z => absurd hd z) (fun _ z => absurd z hl) (fun _ _ z => absurd hx z) (fun _ _ _ => fun K' hk => hX K' (hk _ _ _ _ _ _ _ _ _ _ _ _ _ _ _ _ _ _ _ _ _ _ _ _ _ (br_f hc hq)))⟩
        · exact Or.inr ⟨⟨hd, rg_Bn b3 (by decide), hl⟩, sl1, wl1, dl1, st1, fa1, ri1, si1, so1, ac1, pa1, pb1, pc1, qa1, qb1, qc1, fc1, cx + 1, L1, F1, R11, R21, R31, GC1, GO1, W1, H1, SC1, FR1, I1, fun q hq => xs_pre c1 hS b3 (fun z => absurd hd z) (fun _ z => absurd z hl) (fun _ _ z => absurd hx z) (fun _ _ _ => fun K' hk => hX K' (hk _ _ _ _ _ _ _ _ _ _ _ _ _ _ _ _ _ _ _ _ _ _ _ _ _ (br_t rfl (nm_e hq)))), hC _⟩
      · exact Or.inl ⟨3, fun q hq => xs_pre c1 hS b3 (fun z => absurd hd z) (fun _ z => absurd z hl) (fun _ _ _ => hq) (fun _ _ z => absurd z hx)⟩
  · exact Or.inl ⟨1, fun q hq => xs_pre c1 hS b3 (fun _ => hq) (fun z => absurd z hd) (fun z => absurd z hd) (fun z => absurd z hd)⟩
end
