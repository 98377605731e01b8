/-- what holds of both states -/
def rg_Inv (sl wl dl ri si so pa pb pc qa qb qc fc : Int32) (D L R1 R2 GC H FR : Nat → Int32) : Prop :=
  rg_B 9 sl ∧ rg_B 33 wl ∧ rg_B 17 dl ∧ rg_Seg L R1 R2 GC ∧ rg_Dd D L ∧ rg_Hs H ∧ rg_Fs fc FR ∧ rg_B 8 ri ∧ rg_B 8 si ∧ rg_B 256 so ∧ rg_B 256 pa ∧ rg_B 256 pb ∧ rg_B 8 pc ∧ rg_B 256 qa ∧ rg_B 256 qb ∧ rg_B 8 qc
/-- the two states, with the counts of completed steps on both sides -/
def rg_R (cx cy : Int32) (u : SX) (v : SY) : Prop :=
  ∃ (sl wl dl st fa ri si so ac pa pb pc qa qb qc fc : Int32) (D L F R1 R2 R3 GC GO W FR H SC : Nat → Int32), u = (sl, wl, dl, st, fa, ri, si, so, ac, rg_P pa pb pc, rg_P qa qb qc, fc, cx, L, F, R1, R2, R3, GC, GO, W, H, SC, FR) ∧ v = (sl, wl, dl, st, fa, ri, si, so, ac, pa, pb, pc, qa, qb, qc, cy, fc, D, L, F, R1, R2, R3, GC, GO, W, FR, H, SC) ∧ rg_Inv sl wl dl ri si so pa pb pc qa qb qc fc D L R1 R2 GC H FR
section
variable {sl wl dl st fa ri si so ac pa pb pc qa qb qc fc cx cy : Int32} {D L F R1 R2 R3 GC GO W FR H SC : Nat → Int32}
theorem rg_mk (h : rg_Inv sl wl dl ri si so pa pb pc qa qb qc fc D L R1 R2 GC H FR) : rg_R cx cy (sl, wl, dl, st, fa, ri, si, so, ac, rg_P pa pb pc, rg_P qa qb qc, fc, cx, L, F, R1, R2, R3, GC, GO, W, H, SC, FR) (sl, wl, dl, st, fa, ri, si, so, ac, pa, pb, pc, qa, qb, qc, cy, fc, D, L, F, R1, R2, R3, GC, GO, W, FR, H, SC) :=
  ⟨sl, wl, dl, st, fa, ri, si, so, ac, pa, pb, pc, qa, qb, qc, fc, D, L, F, R1, R2, R3, GC, GO, W, FR, H, SC, rfl, rfl, h⟩
variable {w : Int32}
def rg_Ex (sl wl dl st fa ri si so ac pa pb pc qa qb qc fc cx cy w : Int32) (D L F R1 R2 R3 GC GO W FR H SC : Nat → Int32) : Prop :=
  (∃ c : Int32, ¬ c = 0 ∧ (∀ K : Int32 → SX → Prop, K c (sl, wl, dl, st, fa, ri, si, so, ac, rg_P pa pb pc, rg_P qa qb qc, fc, cx, L, F, R1, R2, R3, GC, GO, W, H, SC, FR) → wpX_execute K (sl, wl, dl, st, fa, ri, si, so, ac, rg_P pa pb pc, rg_P qa qb qc, fc, cx, L, F, R1, R2, R3, GC, GO, W, H, SC, FR) w) ∧ (∀ q : Int32 → SY → Prop, q 0 (sl, wl, dl, 3, c, ri, si, so, ac, pa, pb, pc, qa, qb, qc, cy, fc, D, L, F, R1, R2, R3, GC, GO, W, FR, H, SC) → wY_step_131 q si so (((w).toUInt32 >>> ((16 : Int32).toUInt32 &&& Int32.toUInt32 31)).toInt32 &&& 255) (((w).toUInt32 >>> ((8 : Int32).toUInt32 &&& Int32.toUInt32 31)).toInt32 &&& 255) (w &&& 255) (w &&& 65535) (rg_mx ri pc) sl wl dl st fa ri si so ac pa pb pc qa qb qc cy fc D L F R1 R2 R3 GC GO W FR H SC)) ∨
  (∃ (u : SX) (v : SY), rg_R cx cy u v ∧ (∀ K : Int32 → SX → Prop, K 0 u → wpX_execute K (sl, wl, dl, st, fa, ri, si, so, ac, rg_P pa pb pc, rg_P qa qb qc, fc, cx, L, F, R1, R2, R3, GC, GO, W, H, SC, FR) w) ∧ (∀ q : Int32 → SY → Prop, q 1 v → wY_step_131 q si so (((w).toUInt32 >>> ((16 : Int32).toUInt32 &&& Int32.toUInt32 31)).toInt32 &&& 255) (((w).toUInt32 >>> ((8 : Int32).toUInt32 &&& Int32.toUInt32 31)).toInt32 &&& 255) (w &&& 255) (w &&& 65535) (rg_mx ri pc) sl wl dl st fa ri si so ac pa pb pc qa qb qc cy fc D L F R1 R2 R3 GC GO W FR H SC))
theorem rg_so {L R1 R2 GC : Nat → Int32} {so : Int32} {k : Nat} (hS : rg_Seg L R1 R2 GC) (b3 : rg_B 256 so) (h : ¬ L k ≤ so) : rg_B 256 (so + 1) :=
  rg_Bm (rg_Bs (rg_O32 hS k (rg_Bn b3 (by decide)) h)) (by decide)
theorem st_0 (I : rg_Inv sl wl dl ri si so pa pb pc qa qb qc fc D L R1 R2 GC H FR) (hl : ¬ L si.toNatClampNeg ≤ so) (hop : ((w).toUInt32 >>> ((16 : Int32).toUInt32 &&& Int32.toUInt32 31)).toInt32 &&& 255 = 0) : rg_Ex sl wl dl st fa ri si so ac pa pb pc qa qb qc fc cx cy w D L F R1 R2 R3 GC GO W FR H SC := by
  obtain ⟨c1, c2, c3, hS, hD, hH, hF, b1, b2, b3, p1, p2, p3, q1, q2, q3⟩ := I
  have b3' := rg_so hS b3 hl
  exact Or.inr ⟨(sl, wl, dl, 2, fa, ri, si, so, ac, rg_P pa pb pc, rg_P qa qb qc, fc, cx, L, F, R1, R2, R3, GC, GO, W, H, SC, FR), (sl, wl, dl, 2, fa, ri, si, so, ac, pa, pb, pc, qa, qb, qc, cy, fc, D, L, F, R1, R2, R3, GC, GO, W, FR, H, SC), rg_mk ⟨c1, c2, c3, hS, hD, hH, hF, b1, b2, b3, p1, p2, p3, q1, q2, q3⟩, fun K hK => xe_0 hop hK, fun q hq => (by rw [hop]; exact ys_0 hq)⟩
theorem st_1 (I : rg_Inv sl wl dl ri si so pa pb pc qa qb qc fc D L R1 R2 GC H FR) (hl : ¬ L si.toNatClampNeg ≤ so) (hop : ((w).toUInt32 >>> ((16 : Int32).toUInt32 &&& Int32.toUInt32 31)).toInt32 &&& 255 = 1) : rg_Ex sl wl dl st fa ri si so ac pa pb pc qa qb qc fc cx cy w D L F R1 R2 R3 GC GO W FR H SC := by
  obtain ⟨c1, c2, c3, hS, hD, hH, hF, b1, b2, b3, p1, p2, p3, q1, q2, q3⟩ := I
  have b3' := rg_so hS b3 hl
  exact Or.inr ⟨(sl, wl, dl, st, fa, ri, si, so + 1, w &&& 65535, rg_P pa pb pc, rg_P qa qb qc, fc, cx, L, F, R1, R2, R3, GC, GO, W, H, SC, FR), (sl, wl, dl, st, fa, ri, si, so + 1, w &&& 65535, pa, pb, pc, qa, qb, qc, cy, fc, D, L, F, R1, R2, R3, GC, GO, W, FR, H, SC), rg_mk ⟨c1, c2, c3, hS, hD, hH, hF, b1, b2, b3', p1, p2, p3, q1, q2, q3⟩, fun K hK => xe_1 hop (fun K' hk => xr_1  (hk _ _ _ _ _ _ _ _ _ _ _ _ _ _ _ _ _ _ _ _ _ _ _ _ _ hK)), fun q hq => (by rw [hop]; exact ys_1 hq)⟩
theorem st_2 (I : rg_Inv sl wl dl ri si so pa pb pc qa qb qc fc D L R1 R2 GC H FR) (hl : ¬ L si.toNatClampNeg ≤ so) (hop : ((w).toUInt32 >>> ((16 : Int32).toUInt32 &&& Int32.toUInt32 31)).toInt32 &&& 255 = 2) : rg_Ex sl wl dl st fa ri si so ac pa pb pc qa qb qc fc cx cy w D L F R1 R2 R3 GC GO W FR H SC := by
  obtain ⟨c1, c2, c3, hS, hD, hH, hF, b1, b2, b3, p1, p2, p3, q1, q2, q3⟩ := I
  have b3' := rg_so hS b3 hl
  exact Or.inr ⟨(sl, wl, dl, st, fa, ri, si, so + 1, ac + (w &&& 65535), rg_P pa pb pc, rg_P qa qb qc, fc, cx, L, F, R1, R2, R3, GC, GO, W, H, SC, FR), (sl, wl, dl, st, fa, ri, si, so + 1, ac + (w &&& 65535), pa, pb, pc, qa, qb, qc, cy, fc, D, L, F, R1, R2, R3, GC, GO, W, FR, H, SC), rg_mk ⟨c1, c2, c3, hS, hD, hH, hF, b1, b2, b3', p1, p2, p3, q1, q2, q3⟩, fun K hK => xe_2 hop (fun K' hk => xr_2  (hk _ _ _ _ _ _ _ _ _ _ _ _ _ _ _ _ _ _ _ _ _ _ _ _ _ hK)), fun q hq => (by rw [hop]; exact ys_2 hq)⟩
theorem st_3 (I : rg_Inv sl wl dl ri si so pa pb pc qa qb qc fc D L R1 R2 GC H FR) (hl : ¬ L si.toNatClampNeg ≤ so) (hop : ((w).toUInt32 >>> ((16 : Int32).toUInt32 &&& Int32.toUInt32 31)).toInt32 &&& 255 = 3) : rg_Ex sl wl dl st fa ri si so ac pa pb pc qa qb qc fc cx cy w D L F R1 R2 R3 GC GO W FR H SC := by
  obtain ⟨c1, c2, c3, hS, hD, hH, hF, b1, b2, b3, p1, p2, p3, q1, q2, q3⟩ := I
  have b3' := rg_so hS b3 hl
  exact Or.inr ⟨(sl, wl, dl, st, fa, ri, si, so + 1, ac, rg_P (((w).toUInt32 >>> ((8 : Int32).toUInt32 &&& Int32.toUInt32 31)).toInt32 &&& 255) (w &&& 255) ri, rg_P qa qb qc, fc, cx, L, F, R1, R2, R3, GC, GO, W, H, SC, FR), (sl, wl, dl, st, fa, ri, si, so + 1, ac, ((w).toUInt32 >>> ((8 : Int32).toUInt32 &&& Int32.toUInt32 31)).toInt32 &&& 255, w &&& 255, ri, qa, qb, qc, cy, fc, D, L, F, R1, R2, R3, GC, GO, W, FR, H, SC), rg_mk ⟨c1, c2, c3, hS, hD, hH, hF, b1, b2, b3', rg_B255 _, rg_B255 _, b1, q1, q2, q3⟩, fun K hK => xe_3 hop (fun K' hk => xr_3  (hk _ _ _ _ _ _ _ _ _ _ _ _ _ _ _ _ _ _ _ _ _ _ _ _ _ hK)), fun q hq => (by rw [hop]; exact ys_3 hq)⟩
theorem st_4 (I : rg_Inv sl wl dl ri si so pa pb pc qa qb qc fc D L R1 R2 GC H FR) (hl : ¬ L si.toNatClampNeg ≤ so) (hop : ((w).toUInt32 >>> ((16 : Int32).toUInt32 &&& Int32.toUInt32 31)).toInt32 &&& 255 = 4) : rg_Ex sl wl dl st fa ri si so ac pa pb pc qa qb qc fc cx cy w D L F R1 R2 R3 GC GO W FR H SC := by
  obtain ⟨c1, c2, c3, hS, hD, hH, hF, b1, b2, b3, p1, p2, p3, q1, q2, q3⟩ := I
  have b3' := rg_so hS b3 hl
  exact Or.inr ⟨(sl, wl, dl, st, fa, ri, si, so + 1, ac, rg_P pa ((pb + (w &&& 255)) &&& 255) pc, rg_P qa qb qc, fc, cx, L, F, R1, R2, R3, GC, GO, W, H, SC, FR), (sl, wl, dl, st, fa, ri, si, so + 1, ac, pa, (pb + (w &&& 255)) &&& 255, pc, qa, qb, qc, cy, fc, D, L, F, R1, R2, R3, GC, GO, W, FR, H, SC), rg_mk ⟨c1, c2, c3, hS, hD, hH, hF, b1, b2, b3', p1, rg_B255 _, p3, q1, q2, q3⟩, fun K hK => xe_4 hop (fun K' hk => xr_4 p1 p2 p3 (hk _ _ _ _ _ _ _ _ _ _ _ _ _ _ _ _ _ _ _ _ _ _ _ _ _ hK)), fun q hq => (by rw [hop]; exact ys_4 hq)⟩
theorem st_5 (I : rg_Inv sl wl dl ri si so pa pb pc qa qb qc fc D L R1 R2 GC H FR) (hl : ¬ L si.toNatClampNeg ≤ so) (hop : ((w).toUInt32 >>> ((16 : Int32).toUInt32 &&& Int32.toUInt32 31)).toInt32 &&& 255 = 5) : rg_Ex sl wl dl st fa ri si so ac pa pb pc qa qb qc fc cx cy w D L F R1 R2 R3 GC GO W FR H SC := by
  obtain ⟨c1, c2, c3, hS, hD, hH, hF, b1, b2, b3, p1, p2, p3, q1, q2, q3⟩ := I
  have b3' := rg_so hS b3 hl
  exact Or.inr ⟨(sl, wl, dl, st, fa, ri, si, so + 1, ac, rg_P qa qb qc, rg_P pa pb pc, fc, cx, L, F, R1, R2, R3, GC, GO, W, H, SC, FR), (sl, wl, dl, st, fa, ri, si, so + 1, ac, qa, qb, qc, pa, pb, pc, cy, fc, D, L, F, R1, R2, R3, GC, GO, W, FR, H, SC), rg_mk ⟨c1, c2, c3, hS, hD, hH, hF, b1, b2, b3', q1, q2, q3, p1, p2, p3⟩, fun K hK => xe_5 hop (fun K' hk => xr_5  (hk _ _ _ _ _ _ _ _ _ _ _ _ _ _ _ _ _ _ _ _ _ _ _ _ _ hK)), fun q hq => (by rw [hop]; exact ys_5 hq)⟩
theorem st_14 (I : rg_Inv sl wl dl ri si so pa pb pc qa qb qc fc D L R1 R2 GC H FR) (hl : ¬ L si.toNatClampNeg ≤ so) (hop : ((w).toUInt32 >>> ((16 : Int32).toUInt32 &&& Int32.toUInt32 31)).toInt32 &&& 255 = 14) : rg_Ex sl wl dl st fa ri si so ac pa pb pc qa qb qc fc cx cy w D L F R1 R2 R3 GC GO W FR H SC := by
  obtain ⟨c1, c2, c3, hS, hD, hH, hF, b1, b2, b3, p1, p2, p3, q1, q2, q3⟩ := I
  have b3' := rg_so hS b3 hl
  exact Or.inr ⟨(sl, wl, dl, st, fa, ri, si, so + 1, ri, rg_P pa pb pc, rg_P qa qb qc, fc, cx, L, F, R1, R2, R3, GC, GO, W, H, SC, FR), (sl, wl, dl, st, fa, ri, si, so + 1, ri, pa, pb, pc, qa, qb, qc, cy, fc, D, L, F, R1, R2, R3, GC, GO, W, FR, H, SC), rg_mk ⟨c1, c2, c3, hS, hD, hH, hF, b1, b2, b3', p1, p2, p3, q1, q2, q3⟩, fun K hK => xe_14 hop (fun K' hk => xr_14  (hk _ _ _ _ _ _ _ _ _ _ _ _ _ _ _ _ _ _ _ _ _ _ _ _ _ hK)), fun q hq => (by rw [hop]; exact ys_14 hq)⟩
theorem st_15 (I : rg_Inv sl wl dl ri si so pa pb pc qa qb qc fc D L R1 R2 GC H FR) (hl : ¬ L si.toNatClampNeg ≤ so) (hop : ((w).toUInt32 >>> ((16 : Int32).toUInt32 &&& Int32.toUInt32 31)).toInt32 &&& 255 = 15) : rg_Ex sl wl dl st fa ri si so ac pa pb pc qa qb qc fc cx cy w D L F R1 R2 R3 GC GO W FR H SC := by
  obtain ⟨c1, c2, c3, hS, hD, hH, hF, b1, b2, b3, p1, p2, p3, q1, q2, q3⟩ := I
  have b3' := rg_so hS b3 hl
  exact Or.inr ⟨(sl, wl, dl, st, fa, ri, si, so + 1, pc, rg_P pa pb pc, rg_P qa qb qc, fc, cx, L, F, R1, R2, R3, GC, GO, W, H, SC, FR), (sl, wl, dl, st, fa, ri, si, so + 1, pc, pa, pb, pc, qa, qb, qc, cy, fc, D, L, F, R1, R2, R3, GC, GO, W, FR, H, SC), rg_mk ⟨c1, c2, c3, hS, hD, hH, hF, b1, b2, b3', p1, p2, p3, q1, q2, q3⟩, fun K hK => xe_15 hop (fun K' hk => xr_15 p1 p2 p3 (hk _ _ _ _ _ _ _ _ _ _ _ _ _ _ _ _ _ _ _ _ _ _ _ _ _ hK)), fun q hq => (by rw [hop]; exact ys_15 hq)⟩
theorem st_10 (I : rg_Inv sl wl dl ri si so pa pb pc qa qb qc fc D L R1 R2 GC H FR) (hl : ¬ L si.toNatClampNeg ≤ so) (hop : ((w).toUInt32 >>> ((16 : Int32).toUInt32 &&& Int32.toUInt32 31)).toInt32 &&& 255 = 10) : rg_Ex sl wl dl st fa ri si so ac pa pb pc qa qb qc fc cx cy w D L F R1 R2 R3 GC GO W FR H SC := by
  obtain ⟨c1, c2, c3, hS, hD, hH, hF, b1, b2, b3, p1, p2, p3, q1, q2, q3⟩ := I
  have b3' := rg_so hS b3 hl
  exact Or.inr ⟨(sl, wl, dl, st, fa, ri, si, w &&& 255, ac, rg_P pa pb pc, rg_P qa qb qc, fc, cx, L, F, R1, R2, R3, GC, GO, W, H, SC, FR), (sl, wl, dl, st, fa, ri, si, w &&& 255, ac, pa, pb, pc, qa, qb, qc, cy, fc, D, L, F, R1, R2, R3, GC, GO, W, FR, H, SC), rg_mk ⟨c1, c2, c3, hS, hD, hH, hF, b1, b2, rg_B255 _, p1, p2, p3, q1, q2, q3⟩, fun K hK => xe_10 hop hK, fun q hq => (by rw [hop]; exact ys_10 hq)⟩
theorem st_11 (I : rg_Inv sl wl dl ri si so pa pb pc qa qb qc fc D L R1 R2 GC H FR) (hl : ¬ L si.toNatClampNeg ≤ so) (hop : ((w).toUInt32 >>> ((16 : Int32).toUInt32 &&& Int32.toUInt32 31)).toInt32 &&& 255 = 11) : rg_Ex sl wl dl st fa ri si so ac pa pb pc qa qb qc fc cx cy w D L F R1 R2 R3 GC GO W FR H SC := by
  obtain ⟨c1, c2, c3, hS, hD, hH, hF, b1, b2, b3, p1, p2, p3, q1, q2, q3⟩ := I
  have b3' := rg_so hS b3 hl
  by_cases h : ac = 0
  · exact Or.inr ⟨(sl, wl, dl, st, fa, ri, si, w &&& 255, ac, rg_P pa pb pc, rg_P qa qb qc, fc, cx, L, F, R1, R2, R3, GC, GO, W, H, SC, FR), (sl, wl, dl, st, fa, ri, si, w &&& 255, ac, pa, pb, pc, qa, qb, qc, cy, fc, D, L, F, R1, R2, R3, GC, GO, W, FR, H, SC), rg_mk ⟨c1, c2, c3, hS, hD, hH, hF, b1, b2, rg_B255 _, p1, p2, p3, q1, q2, q3⟩, fun K hK => xe_11 hop (fun _ => hK) (fun z => absurd h z), fun q hq => (by rw [hop]; exact ys_11 (fun _ => hq) (fun z => absurd h z))⟩
  · exact Or.inr ⟨(sl, wl, dl, st, fa, ri, si, so + 1, ac, rg_P pa pb pc, rg_P qa qb qc, fc, cx, L, F, R1, R2, R3, GC, GO, W, H, SC, FR), (sl, wl, dl, st, fa, ri, si, so + 1, ac, pa, pb, pc, qa, qb, qc, cy, fc, D, L, F, R1, R2, R3, GC, GO, W, FR, H, SC), rg_mk ⟨c1, c2, c3, hS, hD, hH, hF, b1, b2, b3', p1, p2, p3, q1, q2, q3⟩, fun K hK => xe_11 hop (fun z => absurd z h) (fun _ => hK), fun q hq => (by rw [hop]; exact ys_11 (fun z => absurd z h) (fun _ => hq))⟩
theorem st_6 (I : rg_Inv sl wl dl ri si so pa pb pc qa qb qc fc D L R1 R2 GC H FR) (hl : ¬ L si.toNatClampNeg ≤ so) (hop : ((w).toUInt32 >>> ((16 : Int32).toUInt32 &&& Int32.toUInt32 31)).toInt32 &&& 255 = 6) : rg_Ex sl wl dl st fa ri si so ac pa pb pc qa qb qc fc cx cy w D L F R1 R2 R3 GC GO W FR H SC := by
  obtain ⟨c1, c2, c3, hS, hD, hH, hF, b1, b2, b3, p1, p2, p3, q1, q2, q3⟩ := I
  have b3' := rg_so hS b3 hl
  by_cases hd : rg_D sl L pa
  · by_cases hb : L pa.toNatClampNeg ≤ pb
    · exact Or.inl ⟨2, by decide, fun K hK => xe_6 hop (fun K' hk => xl_load c1 hS p1 p2 p3 (fun z => absurd hd z) (fun _ _ => (hk _ _ _ _ _ _ _ _ _ _ _ _ _ _ _ _ _ _ _ _ _ _ _ _ _ hK)) (fun _ z => absurd hb z) (fun _ z => absurd hb z)), fun q hq => (by rw [hop]; exact ys_6 (ys_ld c1 hD hS p2 (fun z => absurd hd z) (fun _ _ => hq) (fun _ z => absurd hb z) (fun _ z => absurd hb z)))⟩
    · by_cases hm : rg_MR F R2 pa (rg_mx ri pc)
      · exact Or.inr ⟨(sl, wl, dl, st, fa, ri, si, so + 1, W (pa * 32 + pb).toNatClampNeg, rg_P pa pb pc, rg_P qa qb qc, fc, cx, L, F, R1, R2, R3, GC, GO, W, H, SC, FR), (sl, wl, dl, st, fa, ri, si, so + 1, W (pa * 32 + pb).toNatClampNeg, pa, pb, pc, qa, qb, qc, cy, fc, D, L, F, R1, R2, R3, GC, GO, W, FR, H, SC), rg_mk ⟨c1, c2, c3, hS, hD, hH, hF, b1, b2, b3', p1, p2, p3, q1, q2, q3⟩, fun K hK => xe_6 hop (fun K' hk => xl_load c1 hS p1 p2 p3 (fun z => absurd hd z) (fun _ z => absurd z hb) (fun _ _ z => absurd hm z) (fun _ _ _ => (hk _ _ _ _ _ _ _ _ _ _ _ _ _ _ _ _ _ _ _ _ _ _ _ _ _ hK))), fun q hq => (by rw [hop]; exact ys_6 (ys_ld c1 hD hS p2 (fun z => absurd hd z) (fun _ z => absurd z hb) (fun _ _ z => absurd hm z) (fun _ _ _ => hq)))⟩
      · exact Or.inl ⟨4, by decide, fun K hK => xe_6 hop (fun K' hk => xl_load c1 hS p1 p2 p3 (fun z => absurd hd z) (fun _ z => absurd z hb) (fun _ _ _ => (hk _ _ _ _ _ _ _ _ _ _ _ _ _ _ _ _ _ _ _ _ _ _ _ _ _ hK)) (fun _ _ z => absurd z hm)), fun q hq => (by rw [hop]; exact ys_6 (ys_ld c1 hD hS p2 (fun z => absurd hd z) (fun _ z => absurd z hb) (fun _ _ _ => hq) (fun _ _ z => absurd z hm)))⟩
  · exact Or.inl ⟨1, by decide, fun K hK => xe_6 hop (fun K' hk => xl_load c1 hS p1 p2 p3 (fun _ => (hk _ _ _ _ _ _ _ _ _ _ _ _ _ _ _ _ _ _ _ _ _ _ _ _ _ hK)) (fun z => absurd z hd) (fun z => absurd z hd) (fun z => absurd z hd)), fun q hq => (by rw [hop]; exact ys_6 (ys_ld c1 hD hS p2 (fun _ => hq) (fun z => absurd z hd) (fun z => absurd z hd) (fun z => absurd z hd)))⟩
theorem st_7 (I : rg_Inv sl wl dl ri si so pa pb pc qa qb qc fc D L R1 R2 GC H FR) (hl : ¬ L si.toNatClampNeg ≤ so) (hop : ((w).toUInt32 >>> ((16 : Int32).toUInt32 &&& Int32.toUInt32 31)).toInt32 &&& 255 = 7) : rg_Ex sl wl dl st fa ri si so ac pa pb pc qa qb qc fc cx cy w D L F R1 R2 R3 GC GO W FR H SC := by
  obtain ⟨c1, c2, c3, hS, hD, hH, hF, b1, b2, b3, p1, p2, p3, q1, q2, q3⟩ := I
  have b3' := rg_so hS b3 hl
  by_cases hd : rg_D sl L pa
  · by_cases hb : L pa.toNatClampNeg ≤ pb
    · exact Or.inl ⟨2, by decide, fun K hK => xe_7 hop (fun K' hk => xl_store c1 hS p1 p2 p3 (fun z => absurd hd z) (fun _ _ => (hk _ _ _ _ _ _ _ _ _ _ _ _ _ _ _ _ _ _ _ _ _ _ _ _ _ hK)) (fun _ z => absurd hb z) (fun _ z => absurd hb z)), fun q hq => (by rw [hop]; exact ys_7 (ys_st c1 hD hS p2 (fun z => absurd hd z) (fun _ _ => hq) (fun _ z => absurd hb z) (fun _ z => absurd hb z)))⟩
    · by_cases hm : rg_MW F R1 pa (rg_mx ri pc)
      · exact Or.inr ⟨(sl, wl, dl, st, fa, ri, si, so + 1, ac, rg_P pa pb pc, rg_P qa qb qc, fc, cx, L, F, R1, R2, R3, GC, GO, upd W (pa * 32 + pb).toNatClampNeg ac, H, SC, FR), (sl, wl, dl, st, fa, ri, si, so + 1, ac, pa, pb, pc, qa, qb, qc, cy, fc, D, L, F, R1, R2, R3, GC, GO, upd W (pa * 32 + pb).toNatClampNeg ac, FR, H, SC), rg_mk ⟨c1, c2, c3, hS, hD, hH, hF, b1, b2, b3', p1, p2, p3, q1, q2, q3⟩, fun K hK => xe_7 hop (fun K' hk => xl_store c1 hS p1 p2 p3 (fun z => absurd hd z) (fun _ z => absurd z hb) (fun _ _ z => absurd hm z) (fun _ _ _ => (hk _ _ _ _ _ _ _ _ _ _ _ _ _ _ _ _ _ _ _ _ _ _ _ _ _ hK))), fun q hq => (by rw [hop]; exact ys_7 (ys_st c1 hD hS p2 (fun z => absurd hd z) (fun _ z => absurd z hb) (fun _ _ z => absurd hm z) (fun _ _ _ => hq)))⟩
      · exact Or.inl ⟨5, by decide, fun K hK => xe_7 hop (fun K' hk => xl_store c1 hS p1 p2 p3 (fun z => absurd hd z) (fun _ z => absurd z hb) (fun _ _ _ => (hk _ _ _ _ _ _ _ _ _ _ _ _ _ _ _ _ _ _ _ _ _ _ _ _ _ hK)) (fun _ _ z => absurd z hm)), fun q hq => (by rw [hop]; exact ys_7 (ys_st c1 hD hS p2 (fun z => absurd hd z) (fun _ z => absurd z hb) (fun _ _ _ => hq) (fun _ _ z => absurd z hm)))⟩
  · exact Or.inl ⟨1, by decide, fun K hK => xe_7 hop (fun K' hk => xl_store c1 hS p1 p2 p3 (fun _ => (hk _ _ _ _ _ _ _ _ _ _ _ _ _ _ _ _ _ _ _ _ _ _ _ _ _ hK)) (fun z => absurd z hd) (fun z => absurd z hd) (fun z => absurd z hd)), fun q hq => (by rw [hop]; exact ys_7 (ys_st c1 hD hS p2 (fun _ => hq) (fun z => absurd z hd) (fun z => absurd z hd) (fun z => absurd z hd)))⟩
theorem st_8 (I : rg_Inv sl wl dl ri si so pa pb pc qa qb qc fc D L R1 R2 GC H FR) (hl : ¬ L si.toNatClampNeg ≤ so) (hop : ((w).toUInt32 >>> ((16 : Int32).toUInt32 &&& Int32.toUInt32 31)).toInt32 &&& 255 = 8) : rg_Ex sl wl dl st fa ri si so ac pa pb pc qa qb qc fc cx cy w D L F R1 R2 R3 GC GO W FR H SC := by
  obtain ⟨c1, c2, c3, hS, hD, hH, hF, b1, b2, b3, p1, p2, p3, q1, q2, q3⟩ := I
  have b3' := rg_so hS b3 hl
  by_cases h : H ri.toNatClampNeg < dl
  · have hh : rg_B 17 (H ri.toNatClampNeg + 1) := rg_Bs (rg_Bl (n := 16) c3 (by decide) (rg_Bn (hH _) (by decide)) h)
    exact Or.inr ⟨(sl, wl, dl, st, fa, ri, si, so + 1, ac, rg_P pa pb pc, rg_P qa qb qc, fc, cx, L, F, R1, R2, R3, GC, GO, W, upd H ri.toNatClampNeg (H ri.toNatClampNeg + 1), upd SC (ri * 16 + H ri.toNatClampNeg).toNatClampNeg ac, FR), (sl, wl, dl, st, fa, ri, si, so + 1, ac, pa, pb, pc, qa, qb, qc, cy, fc, D, L, F, R1, R2, R3, GC, GO, W, FR, upd H ri.toNatClampNeg (H ri.toNatClampNeg + 1), upd SC (ri * 16 + H ri.toNatClampNeg).toNatClampNeg ac), rg_mk ⟨c1, c2, c3, hS, hD, rg_au hH hh, hF, b1, b2, b3', p1, p2, p3, q1, q2, q3⟩, fun K hK => xe_8 hop (fun K' hk => xl_push b1 c3 hH (fun z => absurd h z) (fun _ => (hk _ _ _ _ _ _ _ _ _ _ _ _ _ _ _ _ _ _ _ _ _ _ _ _ _ hK))), fun q hq => (by rw [hop]; exact ys_8 b1 c3 hH (fun z => absurd h z) (fun _ => hq))⟩
  · exact Or.inl ⟨8, by decide, fun K hK => xe_8 hop (fun K' hk => xl_push b1 c3 hH (fun _ => (hk _ _ _ _ _ _ _ _ _ _ _ _ _ _ _ _ _ _ _ _ _ _ _ _ _ hK)) (fun z => absurd z h)), fun q hq => (by rw [hop]; exact ys_8 b1 c3 hH (fun _ => hq) (fun z => absurd z h))⟩
theorem st_9 (I : rg_Inv sl wl dl ri si so pa pb pc qa qb qc fc D L R1 R2 GC H FR) (hl : ¬ L si.toNatClampNeg ≤ so) (hop : ((w).toUInt32 >>> ((16 : Int32).toUInt32 &&& Int32.toUInt32 31)).toInt32 &&& 255 = 9) : rg_Ex sl wl dl st fa ri si so ac pa pb pc qa qb qc fc cx cy w D L F R1 R2 R3 GC GO W FR H SC := by
  obtain ⟨c1, c2, c3, hS, hD, hH, hF, b1, b2, b3, p1, p2, p3, q1, q2, q3⟩ := I
  have b3' := rg_so hS b3 hl
  by_cases h : rg_fl fc FR < H ri.toNatClampNeg
  · have hh : rg_B 17 (H ri.toNatClampNeg - 1) ∧ vp_in (ri * 16 + (H ri.toNatClampNeg - 1)) 128 := by
      obtain ⟨f, hf, ef⟩ := rg_flB hF
      obtain ⟨t, ht, et⟩ := hH ri.toNatClampNeg
      rw [ef, et, nI_ltI (by omega) (by omega)] at h
      obtain ⟨m, rfl⟩ : ∃ m, t = m + 1 := ⟨t - 1, by omega⟩
      rw [et, nI_pred]
      exact ⟨⟨m, by omega, rfl⟩, rg_i16 b1 ⟨m, by omega, rfl⟩⟩
    exact Or.inr ⟨(sl, wl, dl, st, fa, ri, si, so + 1, SC (ri * 16 + (H ri.toNatClampNeg - 1)).toNatClampNeg, rg_P pa pb pc, rg_P qa qb qc, fc, cx, L, F, R1, R2, R3, GC, GO, W, upd H ri.toNatClampNeg (H ri.toNatClampNeg - 1), SC, FR), (sl, wl, dl, st, fa, ri, si, so + 1, SC (ri * 16 + (H ri.toNatClampNeg - 1)).toNatClampNeg, pa, pb, pc, qa, qb, qc, cy, fc, D, L, F, R1, R2, R3, GC, GO, W, FR, upd H ri.toNatClampNeg (H ri.toNatClampNeg - 1), SC), rg_mk ⟨c1, c2, c3, hS, hD, rg_au hH hh.1, hF, b1, b2, b3', p1, p2, p3, q1, q2, q3⟩, fun K hK => xe_9 hop (fun K' hk => xl_pop b1 hH hF (fun z => absurd h z) (fun _ _ => hk _ _ _ _ _ _ _ _ _ _ _ _ _ _ _ _ _ _ _ _ _ _ _ _ _ hK)), fun q hq => (by rw [hop]; exact ys_9 hF (ys_613 b1 (fun z => absurd h z) (fun _ => ⟨hh.2, hq⟩)))⟩
  · exact Or.inl ⟨8, by decide, fun K hK => xe_9 hop (fun K' hk => xl_pop b1 hH hF (fun _ => hk _ _ _ _ _ _ _ _ _ _ _ _ _ _ _ _ _ _ _ _ _ _ _ _ _ hK) (fun z => absurd z h)), fun q hq => (by rw [hop]; exact ys_9 hF (ys_613 b1 (fun _ => hq) (fun z => absurd z h)))⟩
theorem rg_Pm {a b c : Int32} (ha : rg_B 256 a) (hb : rg_B 256 b) (hc : rg_B 8 c) : rg_Pt (rg_P a b c) := ⟨a, b, c, ha, hb, hc, rfl⟩
theorem rg_FsC {fc dl si so ri fl P Q n : Int32} {FR : Nat → Int32} (hF : rg_Fs fc FR) (c3 : rg_B 17 dl) (h : fc < dl) (b2 : rg_B 8 si) (b3 : rg_B 32 so) (b1 : rg_B 8 ri) (hfl : rg_B 17 fl) (hP : rg_Pt P) (hQ : rg_Pt Q) : rg_Fs (fc + 1) (rg_fr FR (fc * 6) (si * 256 + so + 1) ri fl P Q n) := by
  obtain ⟨f, hf, rfl, hA⟩ := hF
  have h16 : f < 16 := by
    obtain ⟨d, hd, rfl⟩ := c3
    rw [nI_ltI (by omega) (by omega)] at h
    omega
  refine ⟨f + 1, by omega, nI_1 f, ?_⟩
  have e0 : (nI f * 6 + 0).toNatClampNeg = f * 6 + 0 := rg_c6 (o := 0) h16 (by decide)
  have e1 : (nI f * 6 + 1).toNatClampNeg = f * 6 + 1 := rg_c6 (o := 1) h16 (by decide)
  have e2 : (nI f * 6 + 2).toNatClampNeg = f * 6 + 2 := rg_c6 (o := 2) h16 (by decide)
  have e3 : (nI f * 6 + 3).toNatClampNeg = f * 6 + 3 := rg_c6 (o := 3) h16 (by decide)
  have e4 : (nI f * 6 + 4).toNatClampNeg = f * 6 + 4 := rg_c6 (o := 4) h16 (by decide)
  have e5 : (nI f * 6 + 5).toNatClampNeg = f * 6 + 5 := rg_c6 (o := 5) h16 (by decide)
  unfold rg_fr
  rw [e0, e1, e2, e3, e4, e5]
  intro g hg
  by_cases eg : g = f
  · subst eg
    refine ⟨⟨si, so + 1, b2, rg_Bm (rg_Bs b3) (by decide), ?_⟩, ?_, ?_, ?_, ?_⟩
    · rw [pk_un (by omega), pk_un (by omega), pk_un (by omega), pk_un (by omega), pk_un (by omega), Nat.add_zero, pk_us]
      exact Int32.add_assoc _ _ _
    · rw [pk_un (by omega), pk_un (by omega), pk_un (by omega), pk_un (by omega), pk_us]; exact b1
    · rw [pk_un (by omega), pk_un (by omega), pk_un (by omega), pk_us]; exact hfl
    · rw [pk_un (by omega), pk_un (by omega), pk_us]; exact hP
    · rw [pk_un (by omega), pk_us]; exact hQ
  · have hlt : g < f := by omega
    have hk : ∀ m, m < f * 6 → upd (upd (upd (upd (upd (upd FR (f * 6 + 0) (si * 256 + so + 1)) (f * 6 + 1) ri) (f * 6 + 2) fl) (f * 6 + 3) P) (f * 6 + 4) Q) (f * 6 + 5) n m = FR m := by
      intro m hm
      rw [pk_un (by omega), pk_un (by omega), pk_un (by omega), pk_un (by omega), pk_un (by omega), pk_un (by omega)]
    have h6 := hA g hlt
    unfold rg_F6 at h6 ⊢
    rw [hk (g * 6) (by omega), hk (g * 6 + 1) (by omega), hk (g * 6 + 2) (by omega), hk (g * 6 + 3) (by omega), hk (g * 6 + 4) (by omega)]
    exact h6
theorem st_12 (I : rg_Inv sl wl dl ri si so pa pb pc qa qb qc fc D L R1 R2 GC H FR) (hl : ¬ L si.toNatClampNeg ≤ so) (hop : ((w).toUInt32 >>> ((16 : Int32).toUInt32 &&& Int32.toUInt32 31)).toInt32 &&& 255 = 12) : rg_Ex sl wl dl st fa ri si so ac pa pb pc qa qb qc fc cx cy w D L F R1 R2 R3 GC GO W FR H SC := by
  obtain ⟨c1, c2, c3, hS, hD, hH, hF, b1, b2, b3, p1, p2, p3, q1, q2, q3⟩ := I
  have b3' := rg_so hS b3 hl
  have b32 := rg_O32 hS _ (rg_Bn b3 (by decide)) hl
  by_cases hd : rg_D sl L (((w).toUInt32 >>> ((8 : Int32).toUInt32 &&& Int32.toUInt32 31)).toInt32 &&& 255)
  · by_cases hb : L (((w).toUInt32 >>> ((8 : Int32).toUInt32 &&& Int32.toUInt32 31)).toInt32 &&& 255).toNatClampNeg ≤ w &&& 255
    · exact Or.inl ⟨2, by decide, fun K hK => xe_12 hop (fun K' hk => xl_call c1 hS b1 hF c3 p1 p2 p3 q1 q2 q3 (fun z => absurd hd z) (fun _ _ => (hk _ _ _ _ _ _ _ _ _ _ _ _ _ _ _ _ _ _ _ _ _ _ _ _ _ hK)) (fun _ z => absurd hb z) (fun _ z => absurd hb z) (fun _ z => absurd hb z) (fun _ z => absurd hb z)), fun q hq => (by rw [hop]; exact ys_12 c1 hD hS b1 hF c3 (fun z => absurd hd z) (fun _ _ => hq) (fun _ z => absurd hb z) (fun _ z => absurd hb z) (fun _ z => absurd hb z) (fun _ z => absurd hb z))⟩
    · by_cases hm : rg_MC F R3 (((w).toUInt32 >>> ((8 : Int32).toUInt32 &&& Int32.toUInt32 31)).toInt32 &&& 255) ri
      · by_cases hg : ri ≤ R2 (((w).toUInt32 >>> ((8 : Int32).toUInt32 &&& Int32.toUInt32 31)).toInt32 &&& 255).toNatClampNeg ∨ rg_G GC GO (((w).toUInt32 >>> ((8 : Int32).toUInt32 &&& Int32.toUInt32 31)).toInt32 &&& 255) (w &&& 255)
        · by_cases hf : fc < dl
          · exact Or.inr ⟨(sl, wl, dl, st, fa, rg_en R1 R2 ri (((w).toUInt32 >>> ((8 : Int32).toUInt32 &&& Int32.toUInt32 31)).toInt32 &&& 255), ((w).toUInt32 >>> ((8 : Int32).toUInt32 &&& Int32.toUInt32 31)).toInt32 &&& 255, w &&& 255, ac, rg_P pa pb (rg_mx ri pc), rg_P qa qb (rg_mx ri qc), fc + 1, cx, L, F, R1, R2, R3, GC, GO, W, H, SC, rg_fr FR (fc * 6) (si * 256 + so + 1) ri (H (rg_en R1 R2 ri (((w).toUInt32 >>> ((8 : Int32).toUInt32 &&& Int32.toUInt32 31)).toInt32 &&& 255)).toNatClampNeg) (rg_P pa pb pc) (rg_P qa qb qc) (rg_en R1 R2 ri (((w).toUInt32 >>> ((8 : Int32).toUInt32 &&& Int32.toUInt32 31)).toInt32 &&& 255))), (sl, wl, dl, st, fa, rg_en R1 R2 ri (((w).toUInt32 >>> ((8 : Int32).toUInt32 &&& Int32.toUInt32 31)).toInt32 &&& 255), ((w).toUInt32 >>> ((8 : Int32).toUInt32 &&& Int32.toUInt32 31)).toInt32 &&& 255, w &&& 255, ac, pa, pb, rg_mx ri pc, qa, qb, rg_mx ri qc, cy, fc + 1, D, L, F, R1, R2, R3, GC, GO, W, rg_fr FR (fc * 6) (si * 256 + so + 1) ri (H (rg_en R1 R2 ri (((w).toUInt32 >>> ((8 : Int32).toUInt32 &&& Int32.toUInt32 31)).toInt32 &&& 255)).toNatClampNeg) (rg_P pa pb pc) (rg_P qa qb qc) (rg_en R1 R2 ri (((w).toUInt32 >>> ((8 : Int32).toUInt32 &&& Int32.toUInt32 31)).toInt32 &&& 255)), H, SC), rg_mk ⟨c1, c2, c3, hS, hD, hH, rg_FsC hF c3 hf b2 b32 b1 (hH _) (rg_Pm p1 p2 p3) (rg_Pm q1 q2 q3), rg_en8 hS b1, rg_D8' c1 hd, rg_B255 _, p1, p2, rg_mx8 b1 p3, q1, q2, rg_mx8 b1 q3⟩, fun K hK => xe_12 hop (fun K' hk => xl_call c1 hS b1 hF c3 p1 p2 p3 q1 q2 q3 (fun z => absurd hd z) (fun _ z => absurd z hb) (fun _ _ z => absurd hm z) (fun _ _ _ y z => absurd (hg.elim (fun t => absurd t y) id) z) (fun _ _ _ _ z => absurd hf z) (fun _ _ _ _ _ => (hk _ _ _ _ _ _ _ _ _ _ _ _ _ _ _ _ _ _ _ _ _ _ _ _ _ hK))), fun q hq => (by rw [hop]; exact ys_12 c1 hD hS b1 hF c3 (fun z => absurd hd z) (fun _ z => absurd z hb) (fun _ _ z => absurd hm z) (fun _ _ _ y z => absurd (hg.elim (fun t => absurd t y) id) z) (fun _ _ _ _ z => absurd hf z) (fun _ _ _ _ _ => hq))⟩
          · exact Or.inl ⟨9, by decide, fun K hK => xe_12 hop (fun K' hk => xl_call c1 hS b1 hF c3 p1 p2 p3 q1 q2 q3 (fun z => absurd hd z) (fun _ z => absurd z hb) (fun _ _ z => absurd hm z) (fun _ _ _ y z => absurd (hg.elim (fun t => absurd t y) id) z) (fun _ _ _ _ _ => (hk _ _ _ _ _ _ _ _ _ _ _ _ _ _ _ _ _ _ _ _ _ _ _ _ _ hK)) (fun _ _ _ _ z => absurd z hf)), fun q hq => (by rw [hop]; exact ys_12 c1 hD hS b1 hF c3 (fun z => absurd hd z) (fun _ z => absurd z hb) (fun _ _ z => absurd hm z) (fun _ _ _ y z => absurd (hg.elim (fun t => absurd t y) id) z) (fun _ _ _ _ _ => hq) (fun _ _ _ _ z => absurd z hf))⟩
        · have hr : ¬ ri ≤ R2 (((w).toUInt32 >>> ((8 : Int32).toUInt32 &&& Int32.toUInt32 31)).toInt32 &&& 255).toNatClampNeg := fun z => hg (Or.inl z)
          have hn : ¬ rg_G GC GO (((w).toUInt32 >>> ((8 : Int32).toUInt32 &&& Int32.toUInt32 31)).toInt32 &&& 255) (w &&& 255) := fun z => hg (Or.inr z)
          exact Or.inl ⟨7, by decide, fun K hK => xe_12 hop (fun K' hk => xl_call c1 hS b1 hF c3 p1 p2 p3 q1 q2 q3 (fun z => absurd hd z) (fun _ z => absurd z hb) (fun _ _ z => absurd hm z) (fun _ _ _ _ _ => (hk _ _ _ _ _ _ _ _ _ _ _ _ _ _ _ _ _ _ _ _ _ _ _ _ _ hK)) (fun _ _ _ z => absurd z hg) (fun _ _ _ z => absurd z hg)), fun q hq => (by rw [hop]; exact ys_12 c1 hD hS b1 hF c3 (fun z => absurd hd z) (fun _ z => absurd z hb) (fun _ _ z => absurd hm z) (fun _ _ _ _ _ => hq) (fun _ _ _ z => absurd z hg) (fun _ _ _ z => absurd z hg))⟩
      · exact Or.inl ⟨6, by decide, fun K hK => xe_12 hop (fun K' hk => xl_call c1 hS b1 hF c3 p1 p2 p3 q1 q2 q3 (fun z => absurd hd z) (fun _ z => absurd z hb) (fun _ _ _ => (hk _ _ _ _ _ _ _ _ _ _ _ _ _ _ _ _ _ _ _ _ _ _ _ _ _ hK)) (fun _ _ z => absurd z hm) (fun _ _ z => absurd z hm) (fun _ _ z => absurd z hm)), fun q hq => (by rw [hop]; exact ys_12 c1 hD hS b1 hF c3 (fun z => absurd hd z) (fun _ z => absurd z hb) (fun _ _ _ => hq) (fun _ _ z => absurd z hm) (fun _ _ z => absurd z hm) (fun _ _ z => absurd z hm))⟩
  · exact Or.inl ⟨1, by decide, fun K hK => xe_12 hop (fun K' hk => xl_call c1 hS b1 hF c3 p1 p2 p3 q1 q2 q3 (fun _ => (hk _ _ _ _ _ _ _ _ _ _ _ _ _ _ _ _ _ _ _ _ _ _ _ _ _ hK)) (fun z => absurd z hd) (fun z => absurd z hd) (fun z => absurd z hd) (fun z => absurd z hd) (fun z => absurd z hd)), fun q hq => (by rw [hop]; exact ys_12 c1 hD hS b1 hF c3 (fun _ => hq) (fun z => absurd z hd) (fun z => absurd z hd) (fun z => absurd z hd) (fun z => absurd z hd) (fun z => absurd z hd))⟩
theorem rg_FsR {fc : Int32} {FR : Nat → Int32} (hF : rg_Fs fc FR) (h : ¬ fc = 0) : rg_Fs (fc - 1) FR := by
  obtain ⟨f, hf, e1, e2, _, _, hg⟩ := rg_fB hF h
  exact ⟨f, by omega, e2, hg⟩
theorem st_13 (I : rg_Inv sl wl dl ri si so pa pb pc qa qb qc fc D L R1 R2 GC H FR) (hl : ¬ L si.toNatClampNeg ≤ so) (hop : ((w).toUInt32 >>> ((16 : Int32).toUInt32 &&& Int32.toUInt32 31)).toInt32 &&& 255 = 13) : rg_Ex sl wl dl st fa ri si so ac pa pb pc qa qb qc fc cx cy w D L F R1 R2 R3 GC GO W FR H SC := by
  obtain ⟨c1, c2, c3, hS, hD, hH, hF, b1, b2, b3, p1, p2, p3, q1, q2, q3⟩ := I
  have b3' := rg_so hS b3 hl
  by_cases h : fc = 0
  · exact Or.inl ⟨9, by decide, fun K hK => xe_13 hop (fun K' hk => xl_ret b1 hF (fun _ => hk _ _ _ _ _ _ _ _ _ _ _ _ _ _ _ _ _ _ _ _ _ _ _ _ _ hK) (fun z => absurd h z)), fun q hq => (by rw [hop]; exact ys_13 b1 hF (fun _ => hq) (fun z => absurd h z))⟩
  · obtain ⟨f, hf, e1, e2, h6, hc, hg⟩ := rg_fB hF h
    obtain ⟨⟨a, b, ha, hb, hr⟩, g1, g2, ⟨pa1, pb1, pc1, u1, u2, u3, eP⟩, ⟨qa1, qb1, qc1, w1, w2, w3, eQ⟩⟩ := h6
    have k0 : FR ((fc - 1) * 6 + 0).toNatClampNeg = a * 256 + b := (congrArg FR (hc 0 (by decide))).trans hr
    have k1 : rg_B 8 (FR ((fc - 1) * 6 + 1).toNatClampNeg) := by
      have e := hc 1 (by decide)
      rw [show (nI 1) = 1 from rfl] at e
      rw [e]; exact g1
    have k2 : rg_B 17 (FR ((fc - 1) * 6 + 2).toNatClampNeg) := by
      have e := hc 2 (by decide)
      rw [show (nI 2) = 2 from rfl] at e
      rw [e]; exact g2
    have k3 : FR ((fc - 1) * 6 + 3).toNatClampNeg = rg_P pa1 pb1 pc1 := (congrArg FR (hc 3 (by decide))).trans eP
    have k4 : FR ((fc - 1) * 6 + 4).toNatClampNeg = rg_P qa1 qb1 qc1 := (congrArg FR (hc 4 (by decide))).trans eQ
    refine Or.inr ⟨(sl, wl, dl, st, fa, FR ((fc - 1) * 6 + 1).toNatClampNeg, a, b, ac, rg_P pa1 pb1 pc1, rg_P qa1 qb1 qc1, fc - 1, cx, L, F, R1, R2, R3, GC, GO, W, upd H ri.toNatClampNeg (FR ((fc - 1) * 6 + 2).toNatClampNeg), SC, FR), (sl, wl, dl, st, fa, FR ((fc - 1) * 6 + 1).toNatClampNeg, a, b, ac, pa1, pb1, pc1, qa1, qb1, qc1, cy, fc - 1, D, L, F, R1, R2, R3, GC, GO, W, FR, upd H ri.toNatClampNeg (FR ((fc - 1) * 6 + 2).toNatClampNeg), SC), rg_mk ⟨c1, c2, c3, hS, hD, rg_au hH k2, rg_FsR hF h, k1, ha, hb, u1, u2, u3, w1, w2, w3⟩, fun K hK => xe_13 hop (fun K' hk => xl_ret b1 hF (fun z => absurd z h) (fun _ => ?_)), fun q hq => ?_⟩
    · rw [k0, rg_rR ha hb, rg_rD ha hb, k3, k4]
      exact hk _ _ _ _ _ _ _ _ _ _ _ _ _ _ _ _ _ _ _ _ _ _ _ _ _ hK
    · rw [hop]
      refine ys_13 b1 hF (fun z => absurd z h) (fun _ => ?_)
      rw [k0, rg_rR ha hb, rg_rD ha hb, k3, k4, rg_US u1 u2 u3, rg_UO u1 u2 u3, rg_UR u1 u2 u3, rg_US w1 w2 w3, rg_UO w1 w2 w3, rg_UR w1 w2 w3]
      exact hq
theorem st_d (I : rg_Inv sl wl dl ri si so pa pb pc qa qb qc fc D L R1 R2 GC H FR) (hl : ¬ L si.toNatClampNeg ≤ so) (n : Nat) (hn : 15 < n) (hn2 : n < 256) (hop : ((w).toUInt32 >>> ((16 : Int32).toUInt32 &&& Int32.toUInt32 31)).toInt32 &&& 255 = nI n) : rg_Ex sl wl dl st fa ri si so ac pa pb pc qa qb qc fc cx cy w D L F R1 R2 R3 GC GO W FR H SC := by
  obtain ⟨c1, c2, c3, hS, hD, hH, hF, b1, b2, b3, p1, p2, p3, q1, q2, q3⟩ := I
  have h15 : (15 : Int32) < nI n := nI_lt (a := 15) hn (by omega)
  have h13 : (13 : Int32) < nI n := nI_lt (a := 13) (by omega) (by omega)
  have h1 : ¬ nI n < (1 : Int32) := nI_nlt (b := 1) (by omega) (by omega)
  have h0 : ¬ nI n < (0 : Int32) := nI_pos (by omega)
  refine Or.inl ⟨10, by decide, fun K hK => xe_d (by rw [hop]; exact h0) (by rw [hop]; exact h1) (by rw [hop]; exact h13) (by rw [hop]; exact h15) hK, fun q hq => ?_⟩
  rw [hop]
  refine ys_d (fun i hi => ?_) hq
  rw [nI_eq (by omega) (by omega)]
  omega
theorem st_all (I : rg_Inv sl wl dl ri si so pa pb pc qa qb qc fc D L R1 R2 GC H FR) (hl : ¬ L si.toNatClampNeg ≤ so) : rg_Ex sl wl dl st fa ri si so ac pa pb pc qa qb qc fc cx cy w D L F R1 R2 R3 GC GO W FR H SC := by
  obtain ⟨n, hn, hop⟩ := rg_B255 ((w.toUInt32 >>> ((16 : Int32).toUInt32 &&& Int32.toUInt32 31)).toInt32)
  have hc : n = 0 ∨ n = 1 ∨ n = 2 ∨ n = 3 ∨ n = 4 ∨ n = 5 ∨ n = 6 ∨ n = 7 ∨ n = 8 ∨ n = 9 ∨ n = 10 ∨ n = 11 ∨ n = 12 ∨ n = 13 ∨ n = 14 ∨ n = 15 ∨ 15 < n := by omega
  rcases hc with rfl | rfl | rfl | rfl | rfl | rfl | rfl | rfl | rfl | rfl | rfl | rfl | rfl | rfl | rfl | rfl | hn
  · exact st_0 I hl hop
  · exact st_1 I hl hop
  · exact st_2 I hl hop
  · exact st_3 I hl hop
  · exact st_4 I hl hop
  · exact st_5 I hl hop
  · exact st_6 I hl hop
  · exact st_7 I hl hop
  · exact st_8 I hl hop
  · exact st_9 I hl hop
  · exact st_10 I hl hop
  · exact st_11 I hl hop
  · exact st_12 I hl hop
  · exact st_13 I hl hop
  · exact st_14 I hl hop
  · exact st_15 I hl hop
  · exact st_d I hl n hn (by omega) hop
end
