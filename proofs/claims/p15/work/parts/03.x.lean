noncomputable def rg_fl (fc : Int32) (FR : Nat → Int32) : Int32 := if fc = 0 then 0 else FR ((fc - 1) * 6 + 2).toNatClampNeg
noncomputable def rg_en (R1 R2 : Nat → Int32) (ri s : Int32) : Int32 := if R1 s.toNatClampNeg ≤ ri then (if ri ≤ R2 s.toNatClampNeg then ri else R2 s.toNatClampNeg) else R1 s.toNatClampNeg
theorem rg_en8 {L R1 R2 GC : Nat → Int32} {ri s : Int32} (hS : rg_Seg L R1 R2 GC) (b1 : rg_B 8 ri) : rg_B 8 (rg_en R1 R2 ri s) := by
  unfold rg_en
  have h := hS s.toNatClampNeg
  by_cases h1 : R1 s.toNatClampNeg ≤ ri
  · rw [if_pos h1]
    by_cases h2 : ri ≤ R2 s.toNatClampNeg
    · rw [if_pos h2]; exact b1
    · rw [if_neg h2]; exact h.2.2.1
  · rw [if_neg h1]; exact h.2.1
theorem rg_mx8 {a b : Int32} (ha : rg_B 8 a) (hb : rg_B 8 b) : rg_B 8 (rg_mx a b) := by
  unfold rg_mx
  by_cases h : a ≤ b
  · rw [if_pos h]; exact hb
  · rw [if_neg h]; exact ha
theorem rg_assoc (a b : Int32) : a + b - 1 = a + (b - 1) := by grind
/-- the frame that a call pushes, in the class's order of stores -/
def rg_fr (FR : Nat → Int32) (b ret ri fl P Q n : Int32) : Nat → Int32 := upd (upd (upd (upd (upd (upd FR (b + 0).toNatClampNeg ret) (b + 1).toNatClampNeg ri) (b + 2).toNatClampNeg fl) (b + 3).toNatClampNeg P) (b + 4).toNatClampNeg Q) (b + 5).toNatClampNeg n
theorem rg_fI {fc : Int32} {FR : Nat → Int32} (hF : rg_Fs fc FR) (h : ¬ fc = 0) (j : Nat) (hj : j < 6) : vp_in ((fc - 1) * 6 + nI j) 96 := by
  obtain ⟨n, hn, rfl, _⟩ := hF
  have h0 : n ≠ 0 := fun z => h (by rw [z]; rfl)
  obtain ⟨m, rfl⟩ := Nat.exists_eq_succ_of_ne_zero h0
  rw [Nat.succ_eq_add_one, nI_pred]
  exact rg_in6 (by omega) hj
theorem rg_fB {fc : Int32} {FR : Nat → Int32} (hF : rg_Fs fc FR) (h : ¬ fc = 0) : ∃ f : Nat, f < 16 ∧ fc = nI (f + 1) ∧ fc - 1 = nI f ∧ rg_F6 FR (f * 6) ∧ (∀ j : Nat, j < 6 → ((fc - 1) * 6 + nI j).toNatClampNeg = f * 6 + j) ∧ (∀ g, g < f → rg_F6 FR (g * 6)) := by
  obtain ⟨n, hn, rfl, hf⟩ := hF
  have h0 : n ≠ 0 := fun z => h (by rw [z]; rfl)
  obtain ⟨m, rfl⟩ := Nat.exists_eq_succ_of_ne_zero h0
  rw [Nat.succ_eq_add_one, nI_pred]
  exact ⟨m, by omega, rfl, rfl, hf m (by omega), fun j hj => rg_c6 (by omega) hj, fun g hg => hf g (by omega)⟩
theorem rg_flB {fc : Int32} {FR : Nat → Int32} (hF : rg_Fs fc FR) : rg_B 17 (rg_fl fc FR) := by
  unfold rg_fl
  by_cases h : fc = 0
  · rw [if_pos h]; exact rg_B0 (by decide)
  · rw [if_neg h]
    obtain ⟨f, hf, e1, e2, h6, hc, _⟩ := rg_fB hF h
    have e := hc 2 (by decide)
    rw [show (nI 2) = 2 from rfl] at e
    rw [e]
    exact h6.2.2.1
section
variable {sl wl dl st fa ri si so ac pa pb pc qa qb qc P Q fc cx : Int32} {L F R1 R2 R3 GC GO W H SC FR : Nat → Int32}
variable {p : Int32 → Prop} {ps : St2 → Prop} {pq : Int32 → St2 → Prop} {s o e k w : Int32}
theorem xl_pSeg (p1 : rg_B 256 pa) (p2 : rg_B 256 pb) (p3 : rg_B 8 pc) (h : p pa) : wpX_pointerSeg p () (rg_P pa pb pc) := by
  unfold wpX_pointerSeg
  rw [rg_PS p1 p2 p3]
  exact h
theorem xl_pOff (p1 : rg_B 256 pa) (p2 : rg_B 256 pb) (p3 : rg_B 8 pc) (h : p pb) : wpX_pointerOff p () (rg_P pa pb pc) := by
  unfold wpX_pointerOff
  rw [rg_PO p1 p2 p3]
  exact h
theorem xl_pRing (p1 : rg_B 256 pa) (p2 : rg_B 256 pb) (p3 : rg_B 8 pc) (h : p pc) : wpX_pointerRing p () (rg_P pa pb pc) := by
  unfold wpX_pointerRing
  rw [rg_PR p1 p2 p3]
  exact h
theorem xl_eff (p1 : rg_B 256 pa) (p2 : rg_B 256 pb) (p3 : rg_B 8 pc) (h : p (rg_mx ri pc)) : wpX_effectiveRing p (sl, wl, dl, st, fa, ri, si, so, ac, rg_P pa pb pc, Q, fc, cx, L, F, R1, R2, R3, GC, GO, W, H, SC, FR) := by
  unfold wpX_effectiveRing
  refine xl_pRing p1 p2 p3 ?_
  unfold rg_mx at h
  by_cases h1 : ri ≤ pc
  · rw [if_pos h1] at h
    by_cases h2 : pc ≤ ri
    · rw [Int32.le_antisymm h2 h1] at h
      exact br_t h2 h
    · exact br_f h2 h
  · rw [if_neg h1] at h
    exact br_t (Int32.le_of_lt (rg_nle.mp h1)) h
theorem xl_raised (p1 : rg_B 256 pa) (p2 : rg_B 256 pb) (p3 : rg_B 8 pc) (b1 : rg_B 8 ri) (h : p (rg_P pa pb (rg_mx ri pc))) : wpX_raisedTo p () (rg_P pa pb pc) ri := by
  unfold wpX_raisedTo
  refine xl_pRing p1 p2 p3 ?_
  unfold rg_mx at h
  by_cases h1 : ri ≤ pc
  · rw [if_pos h1] at h
    exact br_t h1 h
  · rw [if_neg h1] at h
    refine br_f h1 ?_
    rw [rg_PL p1 p2 p3 b1]
    exact h
theorem xl_advance (p1 : rg_B 256 pa) (p2 : rg_B 256 pb) (p3 : rg_B 8 pc) (h : ps (sl, wl, dl, st, fa, ri, si, so, ac, rg_P pa ((pb + k) &&& 255) pc, Q, fc, cx, L, F, R1, R2, R3, GC, GO, W, H, SC, FR)) : wpX_advancePointer ps (sl, wl, dl, st, fa, ri, si, so, ac, rg_P pa pb pc, Q, fc, cx, L, F, R1, R2, R3, GC, GO, W, H, SC, FR) k := by
  unfold wpX_advancePointer
  exact xl_pSeg p1 p2 p3 (xl_pOff p1 p2 p3 (nm_e (xl_pRing p1 p2 p3 h)))
theorem xl_load (c1 : rg_B 9 sl) (hS : rg_Seg L R1 R2 GC) (p1 : rg_B 256 pa) (p2 : rg_B 256 pb) (p3 : rg_B 8 pc) (h1 : ¬ rg_D sl L pa → pq 1 (sl, wl, dl, st, fa, ri, si, so, ac, rg_P pa pb pc, Q, fc, cx, L, F, R1, R2, R3, GC, GO, W, H, SC, FR)) (h2 : rg_D sl L pa → L pa.toNatClampNeg ≤ pb → pq 2 (sl, wl, dl, st, fa, ri, si, so, ac, rg_P pa pb pc, Q, fc, cx, L, F, R1, R2, R3, GC, GO, W, H, SC, FR)) (h3 : rg_D sl L pa → ¬ L pa.toNatClampNeg ≤ pb → ¬ rg_MR F R2 pa (rg_mx ri pc) → pq 4 (sl, wl, dl, st, fa, ri, si, so, ac, rg_P pa pb pc, Q, fc, cx, L, F, R1, R2, R3, GC, GO, W, H, SC, FR)) (h4 : rg_D sl L pa → ¬ L pa.toNatClampNeg ≤ pb → rg_MR F R2 pa (rg_mx ri pc) → pq 0 (sl, wl, dl, st, fa, ri, si, so + 1, W (pa * 32 + pb).toNatClampNeg, rg_P pa pb pc, Q, fc, cx, L, F, R1, R2, R3, GC, GO, W, H, SC, FR)) : wpX_load pq (sl, wl, dl, st, fa, ri, si, so, ac, rg_P pa pb pc, Q, fc, cx, L, F, R1, R2, R3, GC, GO, W, H, SC, FR) := by
  unfold wpX_load
  exact xl_pSeg p1 p2 p3 (xl_pOff p1 p2 p3 (xl_placeFault c1 (fun hd => br_f rg_1 (h1 hd)) (fun hd h => br_f rg_2 (h2 hd h)) (fun hd h => br_t rfl (xl_eff p1 p2 p3 (xl_mayRead (rg_DI c1 hd) (fun hm => br_f rg_1 ⟨rg_i32 (rg_D8' c1 hd) (rg_O32 hS _ (rg_Bn p2 (by decide)) h), nm_e (nm_e (h4 hd h hm))⟩) (fun hm => br_t rfl (h3 hd h hm)))))))
theorem xl_store (c1 : rg_B 9 sl) (hS : rg_Seg L R1 R2 GC) (p1 : rg_B 256 pa) (p2 : rg_B 256 pb) (p3 : rg_B 8 pc) (h1 : ¬ rg_D sl L pa → pq 1 (sl, wl, dl, st, fa, ri, si, so, ac, rg_P pa pb pc, Q, fc, cx, L, F, R1, R2, R3, GC, GO, W, H, SC, FR)) (h2 : rg_D sl L pa → L pa.toNatClampNeg ≤ pb → pq 2 (sl, wl, dl, st, fa, ri, si, so, ac, rg_P pa pb pc, Q, fc, cx, L, F, R1, R2, R3, GC, GO, W, H, SC, FR)) (h3 : rg_D sl L pa → ¬ L pa.toNatClampNeg ≤ pb → ¬ rg_MW F R1 pa (rg_mx ri pc) → pq 5 (sl, wl, dl, st, fa, ri, si, so, ac, rg_P pa pb pc, Q, fc, cx, L, F, R1, R2, R3, GC, GO, W, H, SC, FR)) (h4 : rg_D sl L pa → ¬ L pa.toNatClampNeg ≤ pb → rg_MW F R1 pa (rg_mx ri pc) → pq 0 (sl, wl, dl, st, fa, ri, si, so + 1, ac, rg_P pa pb pc, Q, fc, cx, L, F, R1, R2, R3, GC, GO, upd W (pa * 32 + pb).toNatClampNeg ac, H, SC, FR)) : wpX_store pq (sl, wl, dl, st, fa, ri, si, so, ac, rg_P pa pb pc, Q, fc, cx, L, F, R1, R2, R3, GC, GO, W, H, SC, FR) := by
  unfold wpX_store
  exact xl_pSeg p1 p2 p3 (xl_pOff p1 p2 p3 (xl_placeFault c1 (fun hd => br_f rg_1 (h1 hd)) (fun hd h => br_f rg_2 (h2 hd h)) (fun hd h => br_t rfl (xl_eff p1 p2 p3 (xl_mayWrite (rg_DI c1 hd) (fun hm => br_f rg_1 ⟨rg_i32 (rg_D8' c1 hd) (rg_O32 hS _ (rg_Bn p2 (by decide)) h), nm_e (nm_e (h4 hd h hm))⟩) (fun hm => br_t rfl (h3 hd h hm)))))))
theorem xl_push (b1 : rg_B 8 ri) (c3 : rg_B 17 dl) (hH : rg_Hs H) (h1 : ¬ H ri.toNatClampNeg < dl → pq 8 (sl, wl, dl, st, fa, ri, si, so, ac, P, Q, fc, cx, L, F, R1, R2, R3, GC, GO, W, H, SC, FR)) (h2 : H ri.toNatClampNeg < dl → pq 0 (sl, wl, dl, st, fa, ri, si, so + 1, ac, P, Q, fc, cx, L, F, R1, R2, R3, GC, GO, W, upd H ri.toNatClampNeg (H ri.toNatClampNeg + 1), upd SC (ri * 16 + H ri.toNatClampNeg).toNatClampNeg ac, FR)) : wpX_push pq (sl, wl, dl, st, fa, ri, si, so, ac, P, Q, fc, cx, L, F, R1, R2, R3, GC, GO, W, H, SC, FR) :=
  And.intro (rg_Bin b1 (by decide)) (nm_e (br_c (fun h => ⟨rg_i16 b1 (rg_Bl (n := 16) c3 (by decide) (rg_Bn (hH _) (by decide)) h), nm_e ⟨rg_Bin b1 (by decide), nm_e (nm_e (h2 h))⟩⟩) h1))
theorem xl_floor (hF : rg_Fs fc FR) (h : p (rg_fl fc FR)) : wpX_innermostFloor p (sl, wl, dl, st, fa, ri, si, so, ac, P, Q, fc, cx, L, F, R1, R2, R3, GC, GO, W, H, SC, FR) := by
  unfold rg_fl at h
  by_cases h1 : fc = 0
  · rw [if_pos h1] at h
    exact br_t h1 h
  · rw [if_neg h1] at h
    exact br_f h1 ⟨rg_fI hF h1 2 (by decide), h⟩
theorem xl_pop (b1 : rg_B 8 ri) (hH : rg_Hs H) (hF : rg_Fs fc FR) (h1 : ¬ rg_fl fc FR < H ri.toNatClampNeg → pq 8 (sl, wl, dl, st, fa, ri, si, so, ac, P, Q, fc, cx, L, F, R1, R2, R3, GC, GO, W, H, SC, FR)) (h2 : rg_fl fc FR < H ri.toNatClampNeg → vp_in (ri * 16 + (H ri.toNatClampNeg - 1)) 128 → pq 0 (sl, wl, dl, st, fa, ri, si, so + 1, SC (ri * 16 + (H ri.toNatClampNeg - 1)).toNatClampNeg, P, Q, fc, cx, L, F, R1, R2, R3, GC, GO, W, upd H ri.toNatClampNeg (H ri.toNatClampNeg - 1), SC, FR)) : wpX_pop pq (sl, wl, dl, st, fa, ri, si, so, ac, P, Q, fc, cx, L, F, R1, R2, R3, GC, GO, W, H, SC, FR) := by
  have hv : rg_fl fc FR < H ri.toNatClampNeg → vp_in (ri * 16 + (H ri.toNatClampNeg - 1)) 128 := by
    intro h
    obtain ⟨f, hf, ef⟩ := rg_flB hF
    obtain ⟨t, ht, et⟩ := hH ri.toNatClampNeg
    rw [ef, et, nI_ltI (by omega) (by omega)] at h
    obtain ⟨m, rfl⟩ : ∃ m, t = m + 1 := ⟨t - 1, by omega⟩
    rw [et, nI_pred]
    exact rg_i16 b1 ⟨m, by omega, rfl⟩
  refine And.intro (rg_Bin b1 (by decide)) (nm_e (xl_floor hF (br_c (fun h => ?_) h1)))
  have h3 := h2 h (hv h)
  have h4 := hv h
  rw [← rg_assoc] at h3 h4
  exact ⟨h4, nm_e ⟨rg_Bin b1 (by decide), nm_e (nm_e h3)⟩⟩
theorem xl_pushFrame (b1 : rg_B 8 k) (hF : rg_B 16 fc) (h : ps (sl, wl, dl, st, fa, ri, si, so, ac, P, Q, fc + 1, cx, L, F, R1, R2, R3, GC, GO, W, H, SC, rg_fr FR (fc * 6) (si * 256 + so + 1) ri (H k.toNatClampNeg) P Q k)) : wpX_pushFrame ps (sl, wl, dl, st, fa, ri, si, so, ac, P, Q, fc, cx, L, F, R1, R2, R3, GC, GO, W, H, SC, FR) k :=
  nm_e ⟨rg_i6 (o := nI 0) hF ⟨0, by decide, rfl⟩, nm_e ⟨rg_i6 (o := nI 1) hF ⟨1, by decide, rfl⟩, nm_e ⟨rg_Bin b1 (by decide), rg_i6 (o := nI 2) hF ⟨2, by decide, rfl⟩, nm_e ⟨rg_i6 (o := nI 3) hF ⟨3, by decide, rfl⟩, nm_e ⟨rg_i6 (o := nI 4) hF ⟨4, by decide, rfl⟩, nm_e ⟨rg_i6 (o := nI 5) hF ⟨5, by decide, rfl⟩, nm_e (nm_e h)⟩⟩⟩⟩⟩⟩
theorem xl_call53 (hv : vp_in s 8) (hS : rg_Seg L R1 R2 GC) (b1 : rg_B 8 ri) (hF : rg_Fs fc FR) (c3 : rg_B 17 dl) (p1 : rg_B 256 pa) (p2 : rg_B 256 pb) (p3 : rg_B 8 pc) (q1 : rg_B 256 qa) (q2 : rg_B 256 qb) (q3 : rg_B 8 qc) (h1 : ¬ fc < dl → pq 9 (sl, wl, dl, st, fa, ri, si, so, ac, rg_P pa pb pc, rg_P qa qb qc, fc, cx, L, F, R1, R2, R3, GC, GO, W, H, SC, FR)) (h2 : fc < dl → pq 0 (sl, wl, dl, st, fa, rg_en R1 R2 ri s, s, o, ac, rg_P pa pb (rg_mx ri pc), rg_P qa qb (rg_mx ri qc), fc + 1, cx, L, F, R1, R2, R3, GC, GO, W, H, SC, rg_fr FR (fc * 6) (si * 256 + so + 1) ri (H (rg_en R1 R2 ri s).toNatClampNeg) (rg_P pa pb pc) (rg_P qa qb qc) (rg_en R1 R2 ri s))) : wX_callSegment_53 pq s o sl wl dl st fa ri si so ac (rg_P pa pb pc) (rg_P qa qb qc) fc cx L F R1 R2 R3 GC GO W H SC FR := by
  refine br_c (fun h => ⟨hv, hv, xl_clamp ?_⟩) h1
  have hf : rg_B 16 fc := by
    obtain ⟨n, hn, e, _⟩ := hF
    exact rg_Bl (n := 16) c3 (by decide) (rg_Bn ⟨n, hn, e⟩ (by decide)) h
  exact xl_pushFrame (rg_en8 hS b1) hf (xl_raised p1 p2 p3 b1 (xl_raised q1 q2 q3 b1 (h2 h)))
theorem xl_call (c1 : rg_B 9 sl) (hS : rg_Seg L R1 R2 GC) (b1 : rg_B 8 ri) (hF : rg_Fs fc FR) (c3 : rg_B 17 dl) (p1 : rg_B 256 pa) (p2 : rg_B 256 pb) (p3 : rg_B 8 pc) (q1 : rg_B 256 qa) (q2 : rg_B 256 qb) (q3 : rg_B 8 qc) (h1 : ¬ rg_D sl L s → pq 1 (sl, wl, dl, st, fa, ri, si, so, ac, rg_P pa pb pc, rg_P qa qb qc, fc, cx, L, F, R1, R2, R3, GC, GO, W, H, SC, FR)) (h2 : rg_D sl L s → L s.toNatClampNeg ≤ o → pq 2 (sl, wl, dl, st, fa, ri, si, so, ac, rg_P pa pb pc, rg_P qa qb qc, fc, cx, L, F, R1, R2, R3, GC, GO, W, H, SC, FR)) (h3 : rg_D sl L s → ¬ L s.toNatClampNeg ≤ o → ¬ rg_MC F R3 s ri → pq 6 (sl, wl, dl, st, fa, ri, si, so, ac, rg_P pa pb pc, rg_P qa qb qc, fc, cx, L, F, R1, R2, R3, GC, GO, W, H, SC, FR)) (h4 : rg_D sl L s → ¬ L s.toNatClampNeg ≤ o → rg_MC F R3 s ri → ¬ ri ≤ R2 s.toNatClampNeg → ¬ rg_G GC GO s o → pq 7 (sl, wl, dl, st, fa, ri, si, so, ac, rg_P pa pb pc, rg_P qa qb qc, fc, cx, L, F, R1, R2, R3, GC, GO, W, H, SC, FR)) (h5 : rg_D sl L s → ¬ L s.toNatClampNeg ≤ o → rg_MC F R3 s ri → (ri ≤ R2 s.toNatClampNeg ∨ rg_G GC GO s o) → ¬ fc < dl → pq 9 (sl, wl, dl, st, fa, ri, si, so, ac, rg_P pa pb pc, rg_P qa qb qc, fc, cx, L, F, R1, R2, R3, GC, GO, W, H, SC, FR)) (h6 : rg_D sl L s → ¬ L s.toNatClampNeg ≤ o → rg_MC F R3 s ri → (ri ≤ R2 s.toNatClampNeg ∨ rg_G GC GO s o) → fc < dl → pq 0 (sl, wl, dl, st, fa, rg_en R1 R2 ri s, s, o, ac, rg_P pa pb (rg_mx ri pc), rg_P qa qb (rg_mx ri qc), fc + 1, cx, L, F, R1, R2, R3, GC, GO, W, H, SC, rg_fr FR (fc * 6) (si * 256 + so + 1) ri (H (rg_en R1 R2 ri s).toNatClampNeg) (rg_P pa pb pc) (rg_P qa qb qc) (rg_en R1 R2 ri s))) : wpX_callSegment pq (sl, wl, dl, st, fa, ri, si, so, ac, rg_P pa pb pc, rg_P qa qb qc, fc, cx, L, F, R1, R2, R3, GC, GO, W, H, SC, FR) s o := by
  unfold wpX_callSegment
  exact xl_placeFault c1 (fun hd => br_f rg_1 (h1 hd)) (fun hd h => br_f rg_2 (h2 hd h)) (fun hd h => br_t rfl (xl_isCallable (rg_DI c1 hd) (fun hm => br_f rg_1 ⟨rg_DI c1 hd, br_c (fun hr => xl_call53 (rg_DI c1 hd) hS b1 hF c3 p1 p2 p3 q1 q2 q3 (h5 hd h hm (Or.inl hr)) (h6 hd h hm (Or.inl hr))) (fun hr => xl_isGate (rg_D8' c1 hd) (hS _).2.2.2.2 (fun hg => br_f rg_1 (xl_call53 (rg_DI c1 hd) hS b1 hF c3 p1 p2 p3 q1 q2 q3 (h5 hd h hm (Or.inr hg)) (h6 hd h hm (Or.inr hg)))) (fun hg => br_t rfl (h4 hd h hm hr hg)))⟩) (fun hm => br_t rfl (h3 hd h hm))))
theorem xl_ret (b1 : rg_B 8 ri) (hF : rg_Fs fc FR) (h1 : fc = 0 → pq 9 (sl, wl, dl, st, fa, ri, si, so, ac, P, Q, fc, cx, L, F, R1, R2, R3, GC, GO, W, H, SC, FR)) (h2 : ¬ fc = 0 → pq 0 (sl, wl, dl, st, fa, FR ((fc - 1) * 6 + 1).toNatClampNeg, FR ((fc - 1) * 6 + 0).toNatClampNeg / 256, FR ((fc - 1) * 6 + 0).toNatClampNeg - FR ((fc - 1) * 6 + 0).toNatClampNeg / 256 * 256, ac, FR ((fc - 1) * 6 + 3).toNatClampNeg, FR ((fc - 1) * 6 + 4).toNatClampNeg, fc - 1, cx, L, F, R1, R2, R3, GC, GO, W, upd H ri.toNatClampNeg (FR ((fc - 1) * 6 + 2).toNatClampNeg), SC, FR)) : wpX_returnToCaller pq (sl, wl, dl, st, fa, ri, si, so, ac, P, Q, fc, cx, L, F, R1, R2, R3, GC, GO, W, H, SC, FR) :=
  br_c h1 (fun h => nm_e ⟨rg_fI hF h 0 (by decide), nm_e ⟨rg_fI hF h 2 (by decide), rg_Bin b1 (by decide), nm_e ⟨rg_fI hF h 1 (by decide), nm_e ⟨by decide, nm_e ⟨by decide, nm_e ⟨rg_fI hF h 3 (by decide), nm_e ⟨rg_fI hF h 4 (by decide), nm_e (nm_e (h2 h))⟩⟩⟩⟩⟩⟩⟩)
theorem xr_1  (hp : pq 0 (sl, wl, dl, st, fa, ri, si, so + 1, w &&& 65535, rg_P pa pb pc, rg_P qa qb qc, fc, cx, L, F, R1, R2, R3, GC, GO, W, H, SC, FR)) : wpX_executeOnRegisters pq (sl, wl, dl, st, fa, ri, si, so, ac, rg_P pa pb pc, rg_P qa qb qc, fc, cx, L, F, R1, R2, R3, GC, GO, W, H, SC, FR) 1 w :=
  nm_e (nm_e (nm_e (br_f (by decide) (br_f (by decide) (br_t rfl (nm_e hp))))))
theorem xr_2  (hp : pq 0 (sl, wl, dl, st, fa, ri, si, so + 1, ac + (w &&& 65535), rg_P pa pb pc, rg_P qa qb qc, fc, cx, L, F, R1, R2, R3, GC, GO, W, H, SC, FR)) : wpX_executeOnRegisters pq (sl, wl, dl, st, fa, ri, si, so, ac, rg_P pa pb pc, rg_P qa qb qc, fc, cx, L, F, R1, R2, R3, GC, GO, W, H, SC, FR) 2 w :=
  nm_e (nm_e (nm_e (br_f (by decide) (br_f (by decide) (br_f (by decide) (br_t rfl (nm_e (nm_e hp))))))))
theorem xr_3  (hp : pq 0 (sl, wl, dl, st, fa, ri, si, so + 1, ac, rg_P (((w).toUInt32 >>> ((8 : Int32).toUInt32 &&& Int32.toUInt32 31)).toInt32 &&& 255) (w &&& 255) ri, rg_P qa qb qc, fc, cx, L, F, R1, R2, R3, GC, GO, W, H, SC, FR)) : wpX_executeOnRegisters pq (sl, wl, dl, st, fa, ri, si, so, ac, rg_P pa pb pc, rg_P qa qb qc, fc, cx, L, F, R1, R2, R3, GC, GO, W, H, SC, FR) 3 w :=
  nm_e (nm_e (nm_e (br_f (by decide) (br_f (by decide) (br_f (by decide) (br_f (by decide) (br_t rfl (nm_e hp))))))))
theorem xr_4 (p1 : rg_B 256 pa) (p2 : rg_B 256 pb) (p3 : rg_B 8 pc) (hp : pq 0 (sl, wl, dl, st, fa, ri, si, so + 1, ac, rg_P pa ((pb + (w &&& 255)) &&& 255) pc, rg_P qa qb qc, fc, cx, L, F, R1, R2, R3, GC, GO, W, H, SC, FR)) : wpX_executeOnRegisters pq (sl, wl, dl, st, fa, ri, si, so, ac, rg_P pa pb pc, rg_P qa qb qc, fc, cx, L, F, R1, R2, R3, GC, GO, W, H, SC, FR) 4 w :=
  nm_e (nm_e (nm_e (br_f (by decide) (br_f (by decide) (br_f (by decide) (br_f (by decide) (br_f (by decide) (br_t rfl (xl_advance p1 p2 p3 (nm_e hp))))))))))
theorem xr_5  (hp : pq 0 (sl, wl, dl, st, fa, ri, si, so + 1, ac, rg_P qa qb qc, rg_P pa pb pc, fc, cx, L, F, R1, R2, R3, GC, GO, W, H, SC, FR)) : wpX_executeOnRegisters pq (sl, wl, dl, st, fa, ri, si, so, ac, rg_P pa pb pc, rg_P qa qb qc, fc, cx, L, F, R1, R2, R3, GC, GO, W, H, SC, FR) 5 w :=
  nm_e (nm_e (nm_e (br_f (by decide) (br_f (by decide) (br_f (by decide) (br_f (by decide) (br_f (by decide) (br_f (by decide) (br_t rfl (nm_e hp))))))))))
theorem xr_14  (hp : pq 0 (sl, wl, dl, st, fa, ri, si, so + 1, ri, rg_P pa pb pc, rg_P qa qb qc, fc, cx, L, F, R1, R2, R3, GC, GO, W, H, SC, FR)) : wpX_executeOnRegisters pq (sl, wl, dl, st, fa, ri, si, so, ac, rg_P pa pb pc, rg_P qa qb qc, fc, cx, L, F, R1, R2, R3, GC, GO, W, H, SC, FR) 14 w :=
  nm_e (nm_e (nm_e (br_f (by decide) (br_f (by decide) (br_f (by decide) (br_f (by decide) (br_f (by decide) (br_f (by decide) (br_f (by decide) (br_f (by decide) (br_f (by decide) (br_f (by decide) (br_f (by decide) (br_f (by decide) (br_f (by decide) (br_f (by decide) (br_f (by decide) (br_t rfl (nm_e hp)))))))))))))))))))
theorem xr_15 (p1 : rg_B 256 pa) (p2 : rg_B 256 pb) (p3 : rg_B 8 pc) (hp : pq 0 (sl, wl, dl, st, fa, ri, si, so + 1, pc, rg_P pa pb pc, rg_P qa qb qc, fc, cx, L, F, R1, R2, R3, GC, GO, W, H, SC, FR)) : wpX_executeOnRegisters pq (sl, wl, dl, st, fa, ri, si, so, ac, rg_P pa pb pc, rg_P qa qb qc, fc, cx, L, F, R1, R2, R3, GC, GO, W, H, SC, FR) 15 w :=
  nm_e (nm_e (nm_e (br_f (by decide) (br_f (by decide) (br_f (by decide) (br_f (by decide) (br_f (by decide) (br_f (by decide) (br_f (by decide) (br_f (by decide) (br_f (by decide) (br_f (by decide) (br_f (by decide) (br_f (by decide) (br_f (by decide) (br_f (by decide) (br_f (by decide) (br_f (by decide) (br_t rfl (xl_pRing p1 p2 p3 (nm_e hp)))))))))))))))))))))
theorem xr_d (h : 15 < k) (h0 : ¬ k < 1) (hp : pq 10 (sl, wl, dl, st, fa, ri, si, so, ac, rg_P pa pb pc, rg_P qa qb qc, fc, cx, L, F, R1, R2, R3, GC, GO, W, H, SC, FR)) : wpX_executeOnRegisters pq (sl, wl, dl, st, fa, ri, si, so, ac, rg_P pa pb pc, rg_P qa qb qc, fc, cx, L, F, R1, R2, R3, GC, GO, W, H, SC, FR) k w :=
  nm_e (nm_e (nm_e (br_f h0 (br_t h hp))))
end
