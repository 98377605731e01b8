section
variable {sl wl dl st fa ri si so ac pa pb pc qa qb qc cx cy fc : Int32} {D L F R1 R2 R3 GC GO W FR H SC : Nat → Int32}
variable {p : Int32 → Prop} {ps : SY → Prop} {pq : Int32 → SY → Prop} {s o e k w x y v z : Int32}
theorem yl_defined (c1 : rg_B 9 sl) (hD : rg_Dd D L) (ht : rg_D sl L s → p 1) (hf : ¬ rg_D sl L s → p 0) : wpY_defined p (sl, wl, dl, st, fa, ri, si, so, ac, pa, pb, pc, qa, qb, qc, cy, fc, D, L, F, R1, R2, R3, GC, GO, W, FR, H, SC) s :=
  br_c (fun h => hf fun z => z.1 h) (fun h0 => br_c (fun h => hf fun z => z.2.1 h) (fun h1 => ⟨rg_Dv c1 h0 h1, br_c (fun h => hf fun z => z.2.2 ((hD _).mp h)) (fun h2 => ht ⟨h0, h1, fun z => h2 ((hD _).mpr z)⟩)⟩))
theorem yl_gateLoop (hs : rg_B 8 s) (ht : rg_G GC GO s o → p 1) (hf : ¬ rg_G GC GO s o → p 0) : ∀ d i : Nat, i + d = 4 → (∀ j, j < i → ¬ GC s.toNatClampNeg ≤ nI j → ¬ GO (s * 4 + nI j).toNatClampNeg = o) → wY_isGate_2 p s o sl wl dl st fa ri si so ac pa pb pc qa qb qc cy fc D L F R1 R2 R3 GC GO W FR H SC (d + 1) (nI i) := by
  intro d
  induction d with
  | zero =>
    intro i hi hn
    refine br_t (nI_le (a := 4) (by omega) (by omega)) (hf ?_)
    rintro ⟨j, hj, h1, h2⟩
    exact hn j (by omega) h1 h2
  | succ d ih =>
    intro i hi hn
    refine br_f (nI_ge (b := 4) (by omega) (by omega)) ⟨rg_Bin hs (by decide), br_c (fun h => nm_r (nI_1 i) (ih (i + 1) (by omega) ?_)) (fun h => ⟨rg_i4 hs ⟨i, by omega, rfl⟩, br_c (fun h2 => ht ⟨i, by omega, h, h2⟩) (fun h2 => nm_r (nI_1 i) (ih (i + 1) (by omega) ?_))⟩)⟩
    · intro j hj h1
      by_cases e : j = i
      · rw [e] at h1; exact absurd h h1
      · exact hn j (by omega) h1
    · intro j hj h1
      by_cases e : j = i
      · rw [e]; exact h2
      · exact hn j (by omega) h1
theorem yl_isGate (hs : rg_B 8 s) (ht : rg_G GC GO s o → p 1) (hf : ¬ rg_G GC GO s o → p 0) : wpY_isGate p (sl, wl, dl, st, fa, ri, si, so, ac, pa, pb, pc, qa, qb, qc, cy, fc, D, L, F, R1, R2, R3, GC, GO, W, FR, H, SC) s o :=
  ⟨5, yl_gateLoop hs ht hf 4 0 rfl (fun j hj => absurd hj (Nat.not_lt_zero j))⟩
theorem yl_ruleF (c1 : rg_B 9 sl) (hD : rg_Dd D L) (hw : ¬ rg_W sl L s o) (hp : p 0) : wpY_rule p (sl, wl, dl, st, fa, ri, si, so, ac, pa, pb, pc, qa, qb, qc, cy, fc, D, L, F, R1, R2, R3, GC, GO, W, FR, H, SC) s o e k := by
  unfold wpY_rule
  exact yl_defined c1 hD (fun hd => br_f rg_1 (br_c (fun _ => hp) (fun h0 => ⟨rg_DI c1 hd, br_c (fun h1 => absurd ⟨hd, h0, rg_nle.mpr h1⟩ hw) (fun _ => hp)⟩))) (fun _ => br_t rfl hp)
theorem yl_rule0 (c1 : rg_B 9 sl) (hD : rg_Dd D L) (hw : rg_W sl L s o) (ht : rg_MR F R2 s e → p 1) (hf : ¬ rg_MR F R2 s e → p 0) : wpY_rule p (sl, wl, dl, st, fa, ri, si, so, ac, pa, pb, pc, qa, qb, qc, cy, fc, D, L, F, R1, R2, R3, GC, GO, W, FR, H, SC) s o e 0 := by
  unfold wpY_rule
  exact yl_defined c1 hD (fun hd => br_f rg_1 (br_f hw.2.1 ⟨rg_DI c1 hd, br_t (rg_nle.mp hw.2.2) ⟨rg_DI c1 hd, nm_e (br_t rfl (br_c (fun h => hf fun z => z.1 h) (fun h => ⟨rg_DI c1 hd, br_c (fun h1 => hf fun z => z.2 h1) (fun h1 => ht ⟨h, h1⟩)⟩)))⟩⟩)) (fun hd => absurd hw.1 hd)
theorem yl_rule1 (c1 : rg_B 9 sl) (hD : rg_Dd D L) (hw : rg_W sl L s o) (ht : rg_MW F R1 s e → p 1) (hf : ¬ rg_MW F R1 s e → p 0) : wpY_rule p (sl, wl, dl, st, fa, ri, si, so, ac, pa, pb, pc, qa, qb, qc, cy, fc, D, L, F, R1, R2, R3, GC, GO, W, FR, H, SC) s o e 1 := by
  unfold wpY_rule
  exact yl_defined c1 hD (fun hd => br_f rg_1 (br_f hw.2.1 ⟨rg_DI c1 hd, br_t (rg_nle.mp hw.2.2) ⟨rg_DI c1 hd, nm_e (br_f (by decide) (br_t rfl (br_c (fun h => hf fun z => z.1 h) (fun h => ⟨rg_DI c1 hd, br_c (fun h1 => hf fun z => z.2 h1) (fun h1 => ht ⟨h, h1⟩)⟩))))⟩⟩)) (fun hd => absurd hw.1 hd)
theorem yl_rule2 (c1 : rg_B 9 sl) (hD : rg_Dd D L) (hw : rg_W sl L s o) (ht : rg_MX F R1 R2 s e → p 1) (hf : ¬ rg_MX F R1 R2 s e → p 0) : wpY_rule p (sl, wl, dl, st, fa, ri, si, so, ac, pa, pb, pc, qa, qb, qc, cy, fc, D, L, F, R1, R2, R3, GC, GO, W, FR, H, SC) s o e 2 := by
  unfold wpY_rule
  exact yl_defined c1 hD (fun hd => br_f rg_1 (br_f hw.2.1 ⟨rg_DI c1 hd, br_t (rg_nle.mp hw.2.2) ⟨rg_DI c1 hd, nm_e (br_f (by decide) (br_f (by decide) (br_t rfl (br_c (fun h => hf fun z => z.1 h) (fun h => ⟨rg_DI c1 hd, br_c (fun h1 => hf fun z => z.2.1 h1) (fun h1 => ⟨rg_DI c1 hd, br_c (fun h2 => hf fun z => z.2.2 h2) (fun h2 => ht ⟨h, h1, h2⟩)⟩)⟩)))))⟩⟩)) (fun hd => absurd hw.1 hd)
theorem yl_rule3 (c1 : rg_B 9 sl) (hD : rg_Dd D L) (hw : rg_W sl L s o) (ht : rg_MC F R3 s e → (e ≤ R2 s.toNatClampNeg ∨ rg_G GC GO s o) → p 1) (hf : ¬ (rg_MC F R3 s e ∧ (e ≤ R2 s.toNatClampNeg ∨ rg_G GC GO s o)) → p 0) : wpY_rule p (sl, wl, dl, st, fa, ri, si, so, ac, pa, pb, pc, qa, qb, qc, cy, fc, D, L, F, R1, R2, R3, GC, GO, W, FR, H, SC) s o e 3 := by
  unfold wpY_rule
  exact yl_defined c1 hD (fun hd => br_f rg_1 (br_f hw.2.1 ⟨rg_DI c1 hd, br_t (rg_nle.mp hw.2.2) ⟨rg_DI c1 hd, nm_e (br_f (by decide) (br_f (by decide) (br_f (by decide) (br_t rfl (br_c (fun h => hf fun z => z.1.1 h) (fun h => ⟨rg_DI c1 hd, br_c (fun h1 => hf fun z => z.1.2 h1) (fun h1 => ⟨rg_DI c1 hd, br_c (fun h2 => ht ⟨h, h1⟩ (Or.inl h2)) (fun h2 => yl_isGate (rg_D8' c1 hd) (fun hg => br_f rg_1 (ht ⟨h, h1⟩ (Or.inr hg))) (fun hg => br_t rfl (hf fun z => z.2.elim h2 hg)))⟩)⟩))))))⟩⟩)) (fun hd => absurd hw.1 hd)
theorem yl_fail (h : pq 0 (sl, wl, dl, 3, k, ri, si, so, ac, pa, pb, pc, qa, qb, qc, cy, fc, D, L, F, R1, R2, R3, GC, GO, W, FR, H, SC)) : wpY_fail pq (sl, wl, dl, st, fa, ri, si, so, ac, pa, pb, pc, qa, qb, qc, cy, fc, D, L, F, R1, R2, R3, GC, GO, W, FR, H, SC) k := h
theorem y_38 (h : pq 0 (sl, wl, dl, 3, 2, ri, si, so, ac, pa, pb, pc, qa, qb, qc, cy, fc, D, L, F, R1, R2, R3, GC, GO, W, FR, H, SC)) : wY_step_38 pq sl wl dl st fa ri si so ac pa pb pc qa qb qc cy fc D L F R1 R2 R3 GC GO W FR H SC := by
  unfold wY_step_38
  exact yl_fail (And.intro rfl h)
theorem y_800 (h : pq 0 (sl, wl, dl, 3, 6, ri, si, so, ac, pa, pb, pc, qa, qb, qc, cy, fc, D, L, F, R1, R2, R3, GC, GO, W, FR, H, SC)) : wY_step_800 pq sl wl dl st fa ri si so ac pa pb pc qa qb qc cy fc D L F R1 R2 R3 GC GO W FR H SC := by
  unfold wY_step_800
  exact yl_fail (And.intro rfl h)
theorem ys_0 (hp : pq 1 (sl, wl, dl, 2, fa, ri, si, so, ac, pa, pb, pc, qa, qb, qc, cy, fc, D, L, F, R1, R2, R3, GC, GO, W, FR, H, SC)) : wY_step_131 pq si so 0 x y v z sl wl dl st fa ri si so ac pa pb pc qa qb qc cy fc D L F R1 R2 R3 GC GO W FR H SC :=
  (br_t rfl hp)
theorem ys_1 (hp : pq 1 (sl, wl, dl, st, fa, ri, si, so + 1, v, pa, pb, pc, qa, qb, qc, cy, fc, D, L, F, R1, R2, R3, GC, GO, W, FR, H, SC)) : wY_step_131 pq si so 1 x y v z sl wl dl st fa ri si so ac pa pb pc qa qb qc cy fc D L F R1 R2 R3 GC GO W FR H SC :=
  (br_f (by decide) (br_t rfl (nm_e hp)))
theorem ys_2 (hp : pq 1 (sl, wl, dl, st, fa, ri, si, so + 1, ac + v, pa, pb, pc, qa, qb, qc, cy, fc, D, L, F, R1, R2, R3, GC, GO, W, FR, H, SC)) : wY_step_131 pq si so 2 x y v z sl wl dl st fa ri si so ac pa pb pc qa qb qc cy fc D L F R1 R2 R3 GC GO W FR H SC :=
  (br_f (by decide) (br_f (by decide) (br_t rfl (nm_e (nm_e hp)))))
theorem ys_3 (hp : pq 1 (sl, wl, dl, st, fa, ri, si, so + 1, ac, x, y, ri, qa, qb, qc, cy, fc, D, L, F, R1, R2, R3, GC, GO, W, FR, H, SC)) : wY_step_131 pq si so 3 x y v z sl wl dl st fa ri si so ac pa pb pc qa qb qc cy fc D L F R1 R2 R3 GC GO W FR H SC :=
  (br_f (by decide) (br_f (by decide) (br_f (by decide) (br_t rfl (nm_e hp)))))
theorem ys_4 (hp : pq 1 (sl, wl, dl, st, fa, ri, si, so + 1, ac, pa, (pb + y) &&& 255, pc, qa, qb, qc, cy, fc, D, L, F, R1, R2, R3, GC, GO, W, FR, H, SC)) : wY_step_131 pq si so 4 x y v z sl wl dl st fa ri si so ac pa pb pc qa qb qc cy fc D L F R1 R2 R3 GC GO W FR H SC :=
  (br_f (by decide) (br_f (by decide) (br_f (by decide) (br_f (by decide) (br_t rfl (nm_e (nm_e hp)))))))
theorem ys_5 (hp : pq 1 (sl, wl, dl, st, fa, ri, si, so + 1, ac, qa, qb, qc, pa, pb, pc, cy, fc, D, L, F, R1, R2, R3, GC, GO, W, FR, H, SC)) : wY_step_131 pq si so 5 x y v z sl wl dl st fa ri si so ac pa pb pc qa qb qc cy fc D L F R1 R2 R3 GC GO W FR H SC :=
  (br_f (by decide) (br_f (by decide) (br_f (by decide) (br_f (by decide) (br_f (by decide) (br_t rfl (nm_e hp)))))))
theorem ys_10 (hp : pq 1 (sl, wl, dl, st, fa, ri, si, y, ac, pa, pb, pc, qa, qb, qc, cy, fc, D, L, F, R1, R2, R3, GC, GO, W, FR, H, SC)) : wY_step_131 pq si so 10 x y v z sl wl dl st fa ri si so ac pa pb pc qa qb qc cy fc D L F R1 R2 R3 GC GO W FR H SC :=
  (br_f (by decide) (br_f (by decide) (br_f (by decide) (br_f (by decide) (br_f (by decide) (br_f (by decide) (br_f (by decide) (br_f (by decide) (br_f (by decide) (br_f (by decide) (br_t rfl hp)))))))))))
theorem ys_11 (h1 : ac = 0 → pq 1 (sl, wl, dl, st, fa, ri, si, y, ac, pa, pb, pc, qa, qb, qc, cy, fc, D, L, F, R1, R2, R3, GC, GO, W, FR, H, SC)) (h2 : ¬ ac = 0 → pq 1 (sl, wl, dl, st, fa, ri, si, so + 1, ac, pa, pb, pc, qa, qb, qc, cy, fc, D, L, F, R1, R2, R3, GC, GO, W, FR, H, SC)) : wY_step_131 pq si so 11 x y v z sl wl dl st fa ri si so ac pa pb pc qa qb qc cy fc D L F R1 R2 R3 GC GO W FR H SC :=
  (br_f (by decide) (br_f (by decide) (br_f (by decide) (br_f (by decide) (br_f (by decide) (br_f (by decide) (br_f (by decide) (br_f (by decide) (br_f (by decide) (br_f (by decide) (br_f (by decide) (br_t rfl (br_c h1 (fun h => nm_e (h2 h)))))))))))))))
theorem ys_14 (hp : pq 1 (sl, wl, dl, st, fa, ri, si, so + 1, ri, pa, pb, pc, qa, qb, qc, cy, fc, D, L, F, R1, R2, R3, GC, GO, W, FR, H, SC)) : wY_step_131 pq si so 14 x y v z sl wl dl st fa ri si so ac pa pb pc qa qb qc cy fc D L F R1 R2 R3 GC GO W FR H SC :=
  (br_f (by decide) (br_f (by decide) (br_f (by decide) (br_f (by decide) (br_f (by decide) (br_f (by decide) (br_f (by decide) (br_f (by decide) (br_f (by decide) (br_f (by decide) (br_f (by decide) (br_f (by decide) (br_f (by decide) (br_f (by decide) (br_t rfl (nm_e hp))))))))))))))))
theorem ys_15 (hp : pq 1 (sl, wl, dl, st, fa, ri, si, so + 1, pc, pa, pb, pc, qa, qb, qc, cy, fc, D, L, F, R1, R2, R3, GC, GO, W, FR, H, SC)) : wY_step_131 pq si so 15 x y v z sl wl dl st fa ri si so ac pa pb pc qa qb qc cy fc D L F R1 R2 R3 GC GO W FR H SC :=
  (br_f (by decide) (br_f (by decide) (br_f (by decide) (br_f (by decide) (br_f (by decide) (br_f (by decide) (br_f (by decide) (br_f (by decide) (br_f (by decide) (br_f (by decide) (br_f (by decide) (br_f (by decide) (br_f (by decide) (br_f (by decide) (br_f (by decide) (br_t rfl (nm_e hp)))))))))))))))))
theorem ys_d (hn : ∀ i : Nat, i < 16 → ¬ k = nI i) (hp : pq 0 (sl, wl, dl, 3, 10, ri, si, so, ac, pa, pb, pc, qa, qb, qc, cy, fc, D, L, F, R1, R2, R3, GC, GO, W, FR, H, SC)) : wY_step_131 pq si so k x y v z sl wl dl st fa ri si so ac pa pb pc qa qb qc cy fc D L F R1 R2 R3 GC GO W FR H SC :=
  (br_f (hn 0 (by decide)) (br_f (hn 1 (by decide)) (br_f (hn 2 (by decide)) (br_f (hn 3 (by decide)) (br_f (hn 4 (by decide)) (br_f (hn 5 (by decide)) (br_f (hn 6 (by decide)) (br_f (hn 7 (by decide)) (br_f (hn 8 (by decide)) (br_f (hn 9 (by decide)) (br_f (hn 10 (by decide)) (br_f (hn 11 (by decide)) (br_f (hn 12 (by decide)) (br_f (hn 13 (by decide)) (br_f (hn 14 (by decide)) (br_f (hn 15 (by decide)) (yl_fail (And.intro rfl hp))))))))))))))))))
theorem ys_ld (c1 : rg_B 9 sl) (hD : rg_Dd D L) (hS : rg_Seg L R1 R2 GC) (p2 : rg_B 256 pb) (h1 : ¬ rg_D sl L pa → pq 0 (sl, wl, dl, 3, 1, ri, si, so, ac, pa, pb, pc, qa, qb, qc, cy, fc, D, L, F, R1, R2, R3, GC, GO, W, FR, H, SC)) (h2 : rg_D sl L pa → L pa.toNatClampNeg ≤ pb → pq 0 (sl, wl, dl, 3, 2, ri, si, so, ac, pa, pb, pc, qa, qb, qc, cy, fc, D, L, F, R1, R2, R3, GC, GO, W, FR, H, SC)) (h3 : rg_D sl L pa → ¬ L pa.toNatClampNeg ≤ pb → ¬ rg_MR F R2 pa z → pq 0 (sl, wl, dl, 3, 4, ri, si, so, ac, pa, pb, pc, qa, qb, qc, cy, fc, D, L, F, R1, R2, R3, GC, GO, W, FR, H, SC)) (h4 : rg_D sl L pa → ¬ L pa.toNatClampNeg ≤ pb → rg_MR F R2 pa z → pq 1 (sl, wl, dl, st, fa, ri, si, so + 1, W (pa * 32 + pb).toNatClampNeg, pa, pb, pc, qa, qb, qc, cy, fc, D, L, F, R1, R2, R3, GC, GO, W, FR, H, SC)) : wY_step_346 pq so 6 z sl wl dl st fa ri si so ac pa pb pc qa qb qc cy fc D L F R1 R2 R3 GC GO W FR H SC := by
  unfold wY_step_346
  exact yl_defined c1 hD (fun hd => br_f rg_1 ⟨rg_DI c1 hd, br_c (fun hl => br_t rfl (yl_rule0 c1 hD ⟨hd, rg_Bn p2 (by decide), rg_nle.mpr hl⟩ (fun hm => br_f rg_1 ⟨rg_i32 (rg_D8' c1 hd) (rg_O32 hS _ (rg_Bn p2 (by decide)) (rg_nle.mpr hl)), nm_e (nm_e (h4 hd (rg_nle.mpr hl) hm))⟩) (fun hm => br_t rfl (yl_fail (And.intro rfl (h3 hd (rg_nle.mpr hl) hm)))))) (fun hl => yl_fail (And.intro rfl (h2 hd (rg_nl.mp hl))))⟩) (fun hd => br_t rfl (yl_fail (And.intro rfl (h1 hd))))
theorem ys_st (c1 : rg_B 9 sl) (hD : rg_Dd D L) (hS : rg_Seg L R1 R2 GC) (p2 : rg_B 256 pb) (h1 : ¬ rg_D sl L pa → pq 0 (sl, wl, dl, 3, 1, ri, si, so, ac, pa, pb, pc, qa, qb, qc, cy, fc, D, L, F, R1, R2, R3, GC, GO, W, FR, H, SC)) (h2 : rg_D sl L pa → L pa.toNatClampNeg ≤ pb → pq 0 (sl, wl, dl, 3, 2, ri, si, so, ac, pa, pb, pc, qa, qb, qc, cy, fc, D, L, F, R1, R2, R3, GC, GO, W, FR, H, SC)) (h3 : rg_D sl L pa → ¬ L pa.toNatClampNeg ≤ pb → ¬ rg_MW F R1 pa z → pq 0 (sl, wl, dl, 3, 5, ri, si, so, ac, pa, pb, pc, qa, qb, qc, cy, fc, D, L, F, R1, R2, R3, GC, GO, W, FR, H, SC)) (h4 : rg_D sl L pa → ¬ L pa.toNatClampNeg ≤ pb → rg_MW F R1 pa z → pq 1 (sl, wl, dl, st, fa, ri, si, so + 1, ac, pa, pb, pc, qa, qb, qc, cy, fc, D, L, F, R1, R2, R3, GC, GO, upd W (pa * 32 + pb).toNatClampNeg ac, FR, H, SC)) : wY_step_346 pq so 7 z sl wl dl st fa ri si so ac pa pb pc qa qb qc cy fc D L F R1 R2 R3 GC GO W FR H SC := by
  unfold wY_step_346
  exact yl_defined c1 hD (fun hd => br_f rg_1 ⟨rg_DI c1 hd, br_c (fun hl => br_f (by decide) (yl_rule1 c1 hD ⟨hd, rg_Bn p2 (by decide), rg_nle.mpr hl⟩ (fun hm => br_f rg_1 ⟨rg_i32 (rg_D8' c1 hd) (rg_O32 hS _ (rg_Bn p2 (by decide)) (rg_nle.mpr hl)), nm_e (nm_e (h4 hd (rg_nle.mpr hl) hm))⟩) (fun hm => br_t rfl (yl_fail (And.intro rfl (h3 hd (rg_nle.mpr hl) hm)))))) (fun hl => yl_fail (And.intro rfl (h2 hd (rg_nl.mp hl))))⟩) (fun hd => br_t rfl (yl_fail (And.intro rfl (h1 hd))))
theorem ys_6 (hp : wY_step_346 pq so 6 z sl wl dl st fa ri si so ac pa pb pc qa qb qc cy fc D L F R1 R2 R3 GC GO W FR H SC) : wY_step_131 pq si so 6 x y v z sl wl dl st fa ri si so ac pa pb pc qa qb qc cy fc D L F R1 R2 R3 GC GO W FR H SC :=
  (br_f (by decide) (br_f (by decide) (br_f (by decide) (br_f (by decide) (br_f (by decide) (br_f (by decide) (br_t rfl hp)))))))
theorem ys_7 (hp : wY_step_346 pq so 7 z sl wl dl st fa ri si so ac pa pb pc qa qb qc cy fc D L F R1 R2 R3 GC GO W FR H SC) : wY_step_131 pq si so 7 x y v z sl wl dl st fa ri si so ac pa pb pc qa qb qc cy fc D L F R1 R2 R3 GC GO W FR H SC :=
  (br_f (by decide) (br_f (by decide) (br_f (by decide) (br_f (by decide) (br_f (by decide) (br_f (by decide) (br_f (by decide) (br_t rfl hp))))))))
theorem ys_8 (b1 : rg_B 8 ri) (c3 : rg_B 17 dl) (hH : rg_Hs H) (h1 : ¬ H ri.toNatClampNeg < dl → pq 0 (sl, wl, dl, 3, 8, ri, si, so, ac, pa, pb, pc, qa, qb, qc, cy, fc, D, L, F, R1, R2, R3, GC, GO, W, FR, H, SC)) (h2 : H ri.toNatClampNeg < dl → pq 1 (sl, wl, dl, st, fa, ri, si, so + 1, ac, pa, pb, pc, qa, qb, qc, cy, fc, D, L, F, R1, R2, R3, GC, GO, W, FR, upd H ri.toNatClampNeg (H ri.toNatClampNeg + 1), upd SC (ri * 16 + H ri.toNatClampNeg).toNatClampNeg ac)) : wY_step_131 pq si so 8 x y v z sl wl dl st fa ri si so ac pa pb pc qa qb qc cy fc D L F R1 R2 R3 GC GO W FR H SC :=
  (br_f (by decide) (br_f (by decide) (br_f (by decide) (br_f (by decide) (br_f (by decide) (br_f (by decide) (br_f (by decide) (br_f (by decide) (br_t rfl ⟨rg_Bin b1 (by decide), br_c (fun h => ⟨rg_Bin b1 (by decide), rg_i16 b1 (rg_Bl (n := 16) c3 (by decide) (rg_Bn (hH _) (by decide)) h), nm_e ⟨rg_Bin b1 (by decide), rg_Bin b1 (by decide), nm_e (nm_e (h2 h))⟩⟩) (fun h => yl_fail (And.intro rfl (h1 h)))⟩)))))))))
theorem ys_613 (b1 : rg_B 8 ri) (h1 : ¬ z < H ri.toNatClampNeg → pq 0 (sl, wl, dl, 3, 8, ri, si, so, ac, pa, pb, pc, qa, qb, qc, cy, fc, D, L, F, R1, R2, R3, GC, GO, W, FR, H, SC)) (h2 : z < H ri.toNatClampNeg → vp_in (ri * 16 + (H ri.toNatClampNeg - 1)) 128 ∧ pq 1 (sl, wl, dl, st, fa, ri, si, so + 1, SC (ri * 16 + (H ri.toNatClampNeg - 1)).toNatClampNeg, pa, pb, pc, qa, qb, qc, cy, fc, D, L, F, R1, R2, R3, GC, GO, W, FR, upd H ri.toNatClampNeg (H ri.toNatClampNeg - 1), SC)) : wY_step_613 pq so z sl wl dl st fa ri si so ac pa pb pc qa qb qc cy fc D L F R1 R2 R3 GC GO W FR H SC := by
  have e : upd H ri.toNatClampNeg (H ri.toNatClampNeg - 1) ri.toNatClampNeg = H ri.toNatClampNeg - 1 := pk_us
  refine And.intro (rg_Bin b1 (by decide)) (br_c (fun h => ⟨rg_Bin b1 (by decide), rg_Bin b1 (by decide), nm_e ⟨rg_Bin b1 (by decide), ?_⟩⟩) (fun h => yl_fail (And.intro rfl (h1 h))))
  rw [e]
  exact ⟨(h2 h).1, nm_e (nm_e (h2 h).2)⟩
theorem ys_9 (hF : rg_Fs fc FR) (hp : wY_step_613 pq so (rg_fl fc FR) sl wl dl st fa ri si so ac pa pb pc qa qb qc cy fc D L F R1 R2 R3 GC GO W FR H SC) : wY_step_131 pq si so 9 x y v z sl wl dl st fa ri si so ac pa pb pc qa qb qc cy fc D L F R1 R2 R3 GC GO W FR H SC := by
  unfold rg_fl at hp
  refine (br_f (by decide) (br_f (by decide) (br_f (by decide) (br_f (by decide) (br_f (by decide) (br_f (by decide) (br_f (by decide) (br_f (by decide) (br_f (by decide) (br_t rfl ?_))))))))))
  by_cases h : fc = 0
  · rw [if_pos h] at hp
    exact br_t (by rw [h]; decide) hp
  · rw [if_neg h] at hp
    refine br_f ?_ ⟨rg_fI hF h 2 (by decide), hp⟩
    obtain ⟨f, hf, e, _⟩ := rg_fB hF h
    rw [e]
    exact nI_nle (by omega) (by omega)
end
