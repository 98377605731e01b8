section
variable {sl wl dl st fa ri si so ac pa pb pc qa qb qc fc cx cy : Int32} {D L F R1 R2 R3 GC GO W FR H SC : Nat → Int32}
theorem st_take (I : rg_Inv sl wl dl ri si so pa pb pc qa qb qc fc D L R1 R2 GC H FR) : (∃ (u : SX) (v : SY), rg_R cx cy u v ∧ (∀ q : Int32 → SX → Prop, q 0 u → wpX_takeStep q (sl, wl, dl, st, fa, ri, si, so, ac, rg_P pa pb pc, rg_P qa qb qc, fc, cx, L, F, R1, R2, R3, GC, GO, W, H, SC, FR)) ∧ (∀ q : Int32 → SY → Prop, q 0 v → wpY_step q (sl, wl, dl, st, fa, ri, si, so, ac, pa, pb, pc, qa, qb, qc, cy, fc, D, L, F, R1, R2, R3, GC, GO, W, FR, H, SC))) ∨
  (∃ (u : SX) (v : SY), rg_R (cx + 1) cy u v ∧ (∀ q : Int32 → SX → Prop, q 1 u → wpX_takeStep q (sl, wl, dl, st, fa, ri, si, so, ac, rg_P pa pb pc, rg_P qa qb qc, fc, cx, L, F, R1, R2, R3, GC, GO, W, H, SC, FR)) ∧ (∀ q : Int32 → SY → Prop, q 1 v → wpY_step q (sl, wl, dl, st, fa, ri, si, so, ac, pa, pb, pc, qa, qb, qc, cy, fc, D, L, F, R1, R2, R3, GC, GO, W, FR, H, SC))) := by
  have I0 := I
  obtain ⟨c1, c2, c3, hS, hD, hH, hF, b1, b2, b3, p1, p2, p3, q1, q2, q3⟩ := I
  by_cases hd : rg_D sl L si
  · by_cases hl : L si.toNatClampNeg ≤ so
    · exact Or.inl ⟨(sl, wl, dl, 3, 2, ri, si, so, ac, rg_P pa pb pc, rg_P qa qb qc, fc, cx, L, F, R1, R2, R3, GC, GO, W, H, SC, FR), (sl, wl, dl, 3, 2, ri, si, so, ac, pa, pb, pc, qa, qb, qc, cy, fc, D, L, F, R1, R2, R3, GC, GO, W, FR, H, SC), rg_mk I0, fun q hq => xs_pre c1 hS b3 (fun z => absurd hd z) (fun _ _ => hq) (fun _ z => absurd hl z) (fun _ z => absurd hl z), fun q hq => ys_pre c1 hD hS b3 (fun z => absurd hd z) (fun _ _ => hq) (fun _ z => absurd hl z) (fun _ z => absurd hl z)⟩
    · by_cases hx : rg_MX F R1 R2 si ri
      · rcases st_all (cx := cx) (cy := cy) (st := st) (fa := fa) (ac := ac) (F := F) (R3 := R3) (GO := GO) (W := W) (SC := SC) (w := W (si * 32 + so).toNatClampNeg) I0 hl with ⟨c, hc, hX, hY⟩ | ⟨u, v, hR, hX, hY⟩
        · exact Or.inl ⟨(sl, wl, dl, 3, c, ri, si, so, ac, rg_P pa pb pc, rg_P qa qb qc, fc, cx, L, F, R1, R2, R3, GC, GO, W, H, SC, FR), (sl, wl, dl, 3, c, ri, si, so, ac, pa, pb, pc, qa, qb, qc, cy, fc, D, L, F, R1, R2, R3, GC, GO, W, FR, H, SC), rg_mk I0, fun q hq => xs_pre c1 hS b3 (fun z => absurd hd z) (fun _ z => absurd z hl) (fun _ _ z => absurd hx z) (fun _ _ _ => fun K' hk => hX K' (hk _ _ _ _ _ _ _ _ _ _ _ _ _ _ _ _ _ _ _ _ _ _ _ _ _ (br_f hc hq))), fun q hq => ys_pre c1 hD hS b3 (fun z => absurd hd z) (fun _ z => absurd z hl) (fun _ _ z => absurd hx z) (fun _ _ _ => hY q hq)⟩
        · obtain ⟨sl1, wl1, dl1, st1, fa1, ri1, si1, so1, ac1, pa1, pb1, pc1, qa1, qb1, qc1, fc1, D1, L1, F1, R11, R21, R31, GC1, GO1, W1, FR1, H1, SC1, rfl, rfl, I1⟩ := hR
          exact Or.inr ⟨_, _, rg_mk I1, fun q hq => xs_pre c1 hS b3 (fun z => absurd hd z) (fun _ z => absurd z hl) (fun _ _ z => absurd hx z) (fun _ _ _ => fun K' hk => hX K' (hk _ _ _ _ _ _ _ _ _ _ _ _ _ _ _ _ _ _ _ _ _ _ _ _ _ (br_t rfl (nm_e hq)))), fun q hq => ys_pre c1 hD hS b3 (fun z => absurd hd z) (fun _ z => absurd z hl) (fun _ _ z => absurd hx z) (fun _ _ _ => hY q hq)⟩
      · exact Or.inl ⟨(sl, wl, dl, 3, 3, ri, si, so, ac, rg_P pa pb pc, rg_P qa qb qc, fc, cx, L, F, R1, R2, R3, GC, GO, W, H, SC, FR), (sl, wl, dl, 3, 3, ri, si, so, ac, pa, pb, pc, qa, qb, qc, cy, fc, D, L, F, R1, R2, R3, GC, GO, W, FR, H, SC), rg_mk I0, fun q hq => xs_pre c1 hS b3 (fun z => absurd hd z) (fun _ z => absurd z hl) (fun _ _ _ => hq) (fun _ _ z => absurd z hx), fun q hq => ys_pre c1 hD hS b3 (fun z => absurd hd z) (fun _ z => absurd z hl) (fun _ _ _ => hq) (fun _ _ z => absurd z hx)⟩
  · exact Or.inl ⟨(sl, wl, dl, 3, 1, ri, si, so, ac, rg_P pa pb pc, rg_P qa qb qc, fc, cx, L, F, R1, R2, R3, GC, GO, W, H, SC, FR), (sl, wl, dl, 3, 1, ri, si, so, ac, pa, pb, pc, qa, qb, qc, cy, fc, D, L, F, R1, R2, R3, GC, GO, W, FR, H, SC), rg_mk I0, fun q hq => xs_pre c1 hS b3 (fun _ => hq) (fun z => absurd z hd) (fun z => absurd z hd) (fun z => absurd z hd), fun q hq => ys_pre c1 hD hS b3 (fun _ => hq) (fun z => absurd z hd) (fun z => absurd z hd) (fun z => absurd z hd)⟩
end
/-- the loops of run over whole states -/
def rg_lx (q : Int32 → SX → Prop) (m : Int32) (n : Nat) (c t : Int32) (u : SX) : Prop := match u with
  | (sl, wl, dl, st, fa, ri, si, so, ac, P, Q, fc, cx, L, F, R1, R2, R3, GC, GO, W, H, SC, FR) => wX_run_20 q m n c t sl wl dl st fa ri si so ac P Q fc cx L F R1 R2 R3 GC GO W H SC FR
def rg_ly (q : Int32 → SY → Prop) (m : Int32) (n : Nat) (c t : Int32) (v : SY) : Prop := match v with
  | (sl, wl, dl, st, fa, ri, si, so, ac, pa, pb, pc, qa, qb, qc, cy, fc, D, L, F, R1, R2, R3, GC, GO, W, FR, H, SC) => wY_run_35 q m n c t sl wl dl st fa ri si so ac pa pb pc qa qb qc cy fc D L F R1 R2 R3 GC GO W FR H SC
theorem st_run (m : Nat) (hm : m ≤ 256) : ∀ d i : Nat, i + d = m → ∀ (cx c : Int32) (u : SX) (v : SY), rg_R cx cx u v → ∃ (r cx' : Int32) (u' : SX) (v' : SY), rg_R cx' cx' u' v' ∧ (∀ (q : Int32 → SX → Prop) (n : Nat), d < n → q r u' → rg_lx q (nI m) n c (nI i) u) ∧ (∀ (q : Int32 → SY → Prop) (n : Nat), d < n → q r v' → rg_ly q (nI m) n c (nI i) v) := by
  intro d
  induction d with
  | zero =>
    intro i hi cx c u v hR
    obtain ⟨sl, wl, dl, st, fa, ri, si, so, ac, pa, pb, pc, qa, qb, qc, fc, D, L, F, R1, R2, R3, GC, GO, W, FR, H, SC, rfl, rfl, I⟩ := hR
    refine ⟨c, cx, (sl, wl, dl, st, fa, ri, si, so, ac, rg_P pa pb pc, rg_P qa qb qc, fc, cx, L, F, R1, R2, R3, GC, GO, W, H, SC, FR), (sl, wl, dl, st, fa, ri, si, so, ac, pa, pb, pc, qa, qb, qc, cx, fc, D, L, F, R1, R2, R3, GC, GO, W, FR, H, SC), rg_mk I, fun q n hn hq => ?_, fun q n hn hq => ?_⟩
    · obtain ⟨n, rfl⟩ := Nat.exists_eq_succ_of_ne_zero (Nat.pos_iff_ne_zero.mp hn)
      exact br_t (nI_le (by omega) (by omega)) hq
    · obtain ⟨n, rfl⟩ := Nat.exists_eq_succ_of_ne_zero (Nat.pos_iff_ne_zero.mp hn)
      exact br_t (nI_le (by omega) (by omega)) hq
  | succ d ih =>
    intro i hi cx c u v hR
    obtain ⟨sl, wl, dl, st, fa, ri, si, so, ac, pa, pb, pc, qa, qb, qc, fc, D, L, F, R1, R2, R3, GC, GO, W, FR, H, SC, rfl, rfl, I⟩ := hR
    have hlt : ¬ nI m ≤ nI i := nI_ge (by omega) (by omega)
    by_cases hs : st = 1
    · rcases st_take (cx := cx) (cy := cx) (st := st) (fa := fa) (ac := ac) (F := F) (R3 := R3) (GO := GO) (W := W) (SC := SC) I with ⟨u1, v1, hR1, hX, hY⟩ | ⟨u1, v1, hR1, hX, hY⟩
      · obtain ⟨r, cx', u', v', hR', HX, HY⟩ := ih (i + 1) (by omega) cx c u1 v1 hR1
        obtain ⟨sl1, wl1, dl1, st1, fa1, ri1, si1, so1, ac1, pa1, pb1, pc1, qa1, qb1, qc1, fc1, D1, L1, F1, R11, R21, R31, GC1, GO1, W1, FR1, H1, SC1, rfl, rfl, I1⟩ := hR1
        refine ⟨r, cx', u', v', hR', fun q n hn hq => ?_, fun q n hn hq => ?_⟩
        · obtain ⟨n, rfl⟩ := Nat.exists_eq_succ_of_ne_zero (n := n) (by omega)
          exact br_f hlt (br_t hs (hX _ (br_t rfl (nm_r (nI_1 i) (HX q n (by omega) hq)))))
        · obtain ⟨n, rfl⟩ := Nat.exists_eq_succ_of_ne_zero (n := n) (by omega)
          exact br_f hlt (br_t hs (hY _ (br_t rfl (nm_r (nI_1 i) (HY q n (by omega) hq)))))
      · obtain ⟨sl1, wl1, dl1, st1, fa1, ri1, si1, so1, ac1, pa1, pb1, pc1, qa1, qb1, qc1, fc1, D1, L1, F1, R11, R21, R31, GC1, GO1, W1, FR1, H1, SC1, rfl, rfl, I1⟩ := hR1
        obtain ⟨r, cx', u', v', hR', HX, HY⟩ := ih (i + 1) (by omega) (cx + 1) (c + 1) _ _ (rg_mk (cx := cx + 1) (cy := cx + 1) (st := st1) (fa := fa1) (ac := ac1) (F := F1) (R3 := R31) (GO := GO1) (W := W1) (SC := SC1) I1)
        refine ⟨r, cx', u', v', hR', fun q n hn hq => ?_, fun q n hn hq => ?_⟩
        · obtain ⟨n, rfl⟩ := Nat.exists_eq_succ_of_ne_zero (n := n) (by omega)
          exact br_f hlt (br_t hs (hX _ (br_f rg_1 (nm_e (nm_r (nI_1 i) (HX q n (by omega) hq))))))
        · obtain ⟨n, rfl⟩ := Nat.exists_eq_succ_of_ne_zero (n := n) (by omega)
          exact br_f hlt (br_t hs (hY _ (br_f rg_1 (nm_e (nm_e (nm_r (nI_1 i) (HY q n (by omega) hq)))))))
    · refine ⟨c, cx, (sl, wl, dl, st, fa, ri, si, so, ac, rg_P pa pb pc, rg_P qa qb qc, fc, cx, L, F, R1, R2, R3, GC, GO, W, H, SC, FR), (sl, wl, dl, st, fa, ri, si, so, ac, pa, pb, pc, qa, qb, qc, cx, fc, D, L, F, R1, R2, R3, GC, GO, W, FR, H, SC), rg_mk I, fun q n hn hq => ?_, fun q n hn hq => ?_⟩
      · obtain ⟨n, rfl⟩ := Nat.exists_eq_succ_of_ne_zero (n := n) (by omega)
        exact br_f hlt (br_f hs hq)
      · obtain ⟨n, rfl⟩ := Nat.exists_eq_succ_of_ne_zero (n := n) (by omega)
        exact br_f hlt (br_f hs hq)
