section
variable {sl wl dl st fa ri si so ac pa pb pc qa qb qc fc cx P Q : Int32} {L F R1 R2 R3 GC GO W H SC FR : Nat → Int32} {p : Int32 → Prop} {s o e w : Int32}
variable {post : Int32 → Prop} {LL : Nat} {xs : Nat → Int32} {J384 J457 : Int32 → Int32 → Int32 → Int32 → Int32 → Int32 → Int32 → Int32 → Int32 → Int32 → Int32 → Int32 → Int32 → Int32 → Int32 → (Nat → Int32) → (Nat → Int32) → (Nat → Int32) → (Nat → Int32) → (Nat → Int32) → (Nat → Int32) → (Nat → Int32) → (Nat → Int32) → (Nat → Int32) → (Nat → Int32) → (Nat → Int32) → Int32 → Int32 → Int32 → Int32 → Int32 → Int32 → Int32 → Int32 → Int32 → Int32 → Int32 → Int32 → Int32 → (Nat → Int32) → (Nat → Int32) → (Nat → Int32) → (Nat → Int32) → (Nat → Int32) → (Nat → Int32) → (Nat → Int32) → (Nat → Int32) → (Nat → Int32) → (Nat → Int32) → (Nat → Int32) → Prop} {x3 x5 x8 x9 x10 x11 x12 x13 x16 x18 x19 x22 x23 x24 x25 : Int32} {kc ks : Nat} {bsl bwl bdl bst bfa bri bsi bso bac bP bQ bfc bcx : Int32} {bL bF bR1 bR2 bR3 bGC bGO bW bH bSC bFR : Nat → Int32}
theorem xl_peekV {s' o' : Int32} (e1 : s' = s) (e2 : o' = o) (c1 : rg_B 9 sl) (hS : rg_Seg L R1 R2 GC) (h : ∀ r : Int32, (rg_W sl L s o → r = W (s * 32 + o).toNatClampNeg) → p r) : wpX_peek p (sl, wl, dl, st, fa, ri, si, so, ac, P, Q, fc, cx, L, F, R1, R2, R3, GC, GO, W, H, SC, FR) s' o' := by
  subst e1
  subst e2
  by_cases hw : rg_W sl L s' o'
  · exact xl_peek c1 hS hw (h _ (fun _ => rfl))
  · unfold wpX_peek
    exact xl_isWord c1 (fun z => absurd z hw) (fun _ => br_t rfl (h 0 (fun z => absurd z hw)))
theorem xl_acc0 (c1 : rg_B 9 sl) (he : rg_B 8 e) (h : ∀ r : Int32, (rg_W sl L s o → rg_MR F R2 s e → ¬ r = 0) → p r) : wpX_access p (sl, wl, dl, st, fa, ri, si, so, ac, P, Q, fc, cx, L, F, R1, R2, R3, GC, GO, W, H, SC, FR) s o e 0 := by
  have h0 : ¬ e < 0 := rg_Bn he (by decide)
  have h7 : ¬ 7 < e := by
    obtain ⟨j, hj, rfl⟩ := he
    exact nI_nlt (a := 7) (by omega) (by decide)
  unfold wpX_access
  refine xl_isRing (fun _ _ => br_f rg_1 (xl_isWord c1 (fun hw => br_f rg_1 (br_f (by decide) (br_f (by decide) (br_t rfl (xl_mayRead (rg_DI c1 hw.1) (fun _ => And.intro rfl (h 1 (fun _ _ => rg_1))) (fun hm => And.intro rfl (h 0 (fun _ z => absurd z hm)))))))) (fun hw => br_t rfl (h 0 (fun z => absurd z hw))))) (fun z => absurd ⟨h0, h7⟩ z)
theorem xl_acc1 (c1 : rg_B 9 sl) (he : rg_B 8 e) (h : ∀ r : Int32, (rg_W sl L s o → rg_MW F R1 s e → ¬ r = 0) → p r) : wpX_access p (sl, wl, dl, st, fa, ri, si, so, ac, P, Q, fc, cx, L, F, R1, R2, R3, GC, GO, W, H, SC, FR) s o e 1 := by
  have h0 : ¬ e < 0 := rg_Bn he (by decide)
  have h7 : ¬ 7 < e := by
    obtain ⟨j, hj, rfl⟩ := he
    exact nI_nlt (a := 7) (by omega) (by decide)
  unfold wpX_access
  refine xl_isRing (fun _ _ => br_f rg_1 (xl_isWord c1 (fun hw => br_f rg_1 (br_f (by decide) (br_f (by decide) (br_f (by decide) (br_t rfl (xl_mayWrite (rg_DI c1 hw.1) (fun _ => And.intro rfl (h 1 (fun _ _ => rg_1))) (fun hm => And.intro rfl (h 0 (fun _ z => absurd z hm))))))))) (fun hw => br_t rfl (h 0 (fun z => absurd z hw))))) (fun z => absurd ⟨h0, h7⟩ z)
theorem xl_frP {f : Nat} (hf : f < 16) (e1 : fc = nI (f + 1)) (e2 : fc - 1 = nI f) (h : p (FR ((fc - 1) * 6 + 1).toNatClampNeg)) : wpX_frame p (sl, wl, dl, st, fa, ri, si, so, ac, P, Q, fc, cx, L, F, R1, R2, R3, GC, GO, W, H, SC, FR) (fc - 1) 1 := by
  rw [e2] at h ⊢
  refine br_f (nI_pos (by omega)) (br_f ?_ (br_f (by decide) (br_t (by decide) ⟨rg_i6 (o := nI 1) ⟨f, hf, rfl⟩ ⟨1, by decide, rfl⟩, h⟩)))
  rw [e1]
  exact nI_ge (by omega) (by omega)
theorem lz_566x (I : pj_I sl wl dl ri si so pa pb pc qa qb qc fc L F R1 R2 R3 GC H FR) (h : ∀ x22 x23 x24 : Int32, (rg_W sl L pa pb → rg_MR F R2 pa (rg_mx ri pc) → ¬ x22 = 0) → (rg_W sl L pa pb → rg_MW F R1 pa (rg_mx ri pc) → ¬ x23 = 0) → (¬ fc = 0 → x24 = FR ((fc - 1) * 6 + 1).toNatClampNeg) → wL_law_612 post LL xs J384 J457 x3 x5 x8 x9 x10 x11 ri fc x16 pa pb x22 x23 x24 kc ks sl wl dl st fa ri si so ac (rg_P pa pb pc) (rg_P qa qb qc) fc cx L F R1 R2 R3 GC GO W H SC FR bsl bwl bdl bst bfa bri bsi bso bac bP bQ bfc bcx bL bF bR1 bR2 bR3 bGC bGO bW bH bSC bFR) : wL_law_566 post LL xs J384 J457 x3 x5 x8 x9 x10 x11 ri fc x16 pa pb (rg_mx ri pc) kc ks sl wl dl st fa ri si so ac (rg_P pa pb pc) (rg_P qa qb qc) fc cx L F R1 R2 R3 GC GO W H SC FR bsl bwl bdl bst bfa bri bsi bso bac bP bQ bfc bcx bL bF bR1 bR2 bR3 bGC bGO bW bH bSC bFR := by
  obtain ⟨c1, c2, c3, hS, hA, hH, hF, b1, b2, b3, p1, p2, p3, q1, q2, q3⟩ := I
  unfold wL_law_566
  refine xl_acc0 c1 (rg_mx8 b1 p3) (fun x22 h22 => xl_acc1 c1 (rg_mx8 b1 p3) (fun x23 h23 => ?_))
  by_cases h0 : fc = 0
  · exact br_t (by rw [h0]; decide) (h x22 x23 _ h22 h23 (fun z => absurd h0 z))
  · obtain ⟨f, hf, e1, e2, _⟩ := rg_fB hF h0
    refine br_f ?_ (xl_frP hf e1 e2 (h x22 x23 _ h22 h23 (fun _ => rfl)))
    rw [e1]
    exact nI_nle (by omega) (by omega)
theorem lz_457x {n : Nat} (I : pj_I sl wl dl ri si so pa pb pc qa qb qc fc L F R1 R2 R3 GC H FR) (hlt : ¬ x9 ≤ x11) (h : ∀ pv x22 x23 x24 : Int32, (rg_W sl L si so → pv = W (si * 32 + so).toNatClampNeg) → (rg_W sl L pa pb → rg_MR F R2 pa (rg_mx ri pc) → ¬ x22 = 0) → (rg_W sl L pa pb → rg_MW F R1 pa (rg_mx ri pc) → ¬ x23 = 0) → (¬ fc = 0 → x24 = FR ((fc - 1) * 6 + 1).toNatClampNeg) → wL_law_612 post LL xs J384 (wL_law_457 post LL xs J384 x3 x5 x8 x9 kc ks n) x3 x5 x8 x9 x10 x11 ri fc (((pv).toUInt32 >>> ((16 : Int32).toUInt32 &&& Int32.toUInt32 31)).toInt32 &&& 255) pa pb x22 x23 x24 kc ks sl wl dl st fa ri si so ac (rg_P pa pb pc) (rg_P qa qb qc) fc cx L F R1 R2 R3 GC GO W H SC FR bsl bwl bdl bst bfa bri bsi bso bac bP bQ bfc bcx bL bF bR1 bR2 bR3 bGC bGO bW bH bSC bFR) : wL_law_457 post LL xs J384 x3 x5 x8 x9 kc ks (n + 1) x10 x11 sl wl dl st fa ri si so ac (rg_P pa pb pc) (rg_P qa qb qc) fc cx L F R1 R2 R3 GC GO W H SC FR bsl bwl bdl bst bfa bri bsi bso bac bP bQ bfc bcx bL bF bR1 bR2 bR3 bGC bGO bW bH bSC bFR := by
  have I0 := I
  obtain ⟨c1, c2, c3, hS, hA, hH, hF, b1, b2, b3, p1, p2, p3, q1, q2, q3⟩ := I
  refine br_f hlt (xl_st2 (xl_st7 (xl_st3 ⟨by decide, by decide, xl_peekV (rg_rD b2 b3) (rg_rR b2 b3) c1 hS (fun pv hpv => nm_e (xl_st5 (nm_r (rg_PS p1 p2 p3) (nm_r (rg_PO p1 p2 p3) (nm_r (rg_UR p1 p2 p3) ?_)))))⟩)))
  have h5 := lz_566x I0 (h pv · · · hpv)
  by_cases a : ri ≤ pc
  · rw [rg_mxp a] at h5; exact br_t a h5
  · rw [rg_mxn a] at h5; exact br_f a h5
/-- the law behind a call of run(1) that completed nothing -/
theorem lz_0 (hp : wL_law_908 post LL xs J384 x3 x5 x8 x10 kc ks sl wl dl st fa ri si so ac P Q fc cx L F R1 R2 R3 GC GO W H SC FR bsl bwl bdl bst bfa bri bsi bso bac bP bQ bfc bcx bL bF bR1 bR2 bR3 bGC bGO bW bH bSC bFR) : wL_law_634 post LL xs J384 J457 x3 x5 x8 x9 x10 x11 x12 x13 x16 x18 x19 x22 x23 x24 0 kc ks sl wl dl st fa ri si so ac P Q fc cx L F R1 R2 R3 GC GO W H SC FR bsl bwl bdl bst bfa bri bsi bso bac bP bQ bfc bcx bL bF bR1 bR2 bR3 bGC bGO bW bH bSC bFR :=
  br_f (by decide) (br_t rfl hp)
end
section
variable {post : Int32 → Prop} {LL : Nat} {xs : Nat → Int32}
/-- the first d steps: run on the second object, run(1) again and again in the law's loop on the first -/
theorem sp_loop (m : Nat) (hm : m ≤ 256) : ∀ d i : Nat, i + d = m → ∀ (sl wl dl st fa ri si so ac pa pb pc qa qb qc fc cx : Int32) (L F R1 R2 R3 GC GO W H SC FR : Nat → Int32), pj_I sl wl dl ri si so pa pb pc qa qb qc fc L F R1 R2 R3 GC H FR → ∃ (r sl2 wl2 dl2 st2 fa2 ri2 si2 so2 ac2 pa2 pb2 pc2 qa2 qb2 qc2 fc2 cx2 : Int32) (L2 F2 R12 R22 R32 GC2 GO2 W2 H2 SC2 FR2 : Nat → Int32), pj_I sl2 wl2 dl2 ri2 si2 so2 pa2 pb2 pc2 qa2 qb2 qc2 fc2 L2 F2 R12 R22 R32 GC2 H2 FR2 ∧
    (∀ (q : Int32 → St2 → Prop) (n : Nat) (c : Int32), d < n → q (c + r) (sl2, wl2, dl2, st2, fa2, ri2, si2, so2, ac2, rg_P pa2 pb2 pc2, rg_P qa2 qb2 qc2, fc2, cx2, L2, F2, R12, R22, R32, GC2, GO2, W2, H2, SC2, FR2) → wX_run_20 q (nI m) n c (nI i) sl wl dl st fa ri si so ac (rg_P pa pb pc) (rg_P qa qb qc) fc cx L F R1 R2 R3 GC GO W H SC FR) ∧
    (∀ (J384 : Int32 → Int32 → Int32 → Int32 → Int32 → Int32 → Int32 → Int32 → Int32 → Int32 → Int32 → Int32 → Int32 → Int32 → Int32 → (Nat → Int32) → (Nat → Int32) → (Nat → Int32) → (Nat → Int32) → (Nat → Int32) → (Nat → Int32) → (Nat → Int32) → (Nat → Int32) → (Nat → Int32) → (Nat → Int32) → (Nat → Int32) → Int32 → Int32 → Int32 → Int32 → Int32 → Int32 → Int32 → Int32 → Int32 → Int32 → Int32 → Int32 → Int32 → (Nat → Int32) → (Nat → Int32) → (Nat → Int32) → (Nat → Int32) → (Nat → Int32) → (Nat → Int32) → (Nat → Int32) → (Nat → Int32) → (Nat → Int32) → (Nat → Int32) → (Nat → Int32) → Prop) (x3 x5 x8 : Int32) (kc ks : Nat) (bsl bwl bdl bst bfa bri bsi bso bac bP bQ bfc bcx : Int32) (bL bF bR1 bR2 bR3 bGC bGO bW bH bSC bFR : Nat → Int32) (n : Nat) (c : Int32), d < n → wL_law_908 post LL xs J384 x3 x5 x8 (c + r) kc ks sl2 wl2 dl2 st2 fa2 ri2 si2 so2 ac2 (rg_P pa2 pb2 pc2) (rg_P qa2 qb2 qc2) fc2 cx2 L2 F2 R12 R22 R32 GC2 GO2 W2 H2 SC2 FR2 bsl bwl bdl bst bfa bri bsi bso bac bP bQ bfc bcx bL bF bR1 bR2 bR3 bGC bGO bW bH bSC bFR → wL_law_457 post LL xs J384 x3 x5 x8 (nI m) kc ks n c (nI i) sl wl dl st fa ri si so ac (rg_P pa pb pc) (rg_P qa qb qc) fc cx L F R1 R2 R3 GC GO W H SC FR bsl bwl bdl bst bfa bri bsi bso bac bP bQ bfc bcx bL bF bR1 bR2 bR3 bGC bGO bW bH bSC bFR) := by
  intro d
  induction d with
  | zero =>
    intro i hi sl wl dl st fa ri si so ac pa pb pc qa qb qc fc cx L F R1 R2 R3 GC GO W H SC FR I
    refine ⟨0, sl, wl, dl, st, fa, ri, si, so, ac, pa, pb, pc, qa, qb, qc, fc, cx, L, F, R1, R2, R3, GC, GO, W, H, SC, FR, I, fun q n c hn hq => ?_, fun J384 x3 x5 x8 kc ks bsl bwl bdl bst bfa bri bsi bso bac bP bQ bfc bcx bL bF bR1 bR2 bR3 bGC bGO bW bH bSC bFR n c hn hq => ?_⟩
    · obtain ⟨n, rfl⟩ := Nat.exists_eq_succ_of_ne_zero (n := n) (by omega)
      rw [Int32.add_zero] at hq
      exact br_t (nI_le (by omega) (by omega)) hq
    · obtain ⟨n, rfl⟩ := Nat.exists_eq_succ_of_ne_zero (n := n) (by omega)
      rw [Int32.add_zero] at hq
      exact br_t (nI_le (by omega) (by omega)) hq
  | succ d ih =>
    intro i hi sl wl dl st fa ri si so ac pa pb pc qa qb qc fc cx L F R1 R2 R3 GC GO W H SC FR I
    have hlt : ¬ nI m ≤ nI i := nI_ge (by omega) (by omega)
    have hend : ∀ (q : Int32 → St2 → Prop) (n : Nat) (c sl wl dl st fa ri si so ac P Q fc cx : Int32) (L F R1 R2 R3 GC GO W H SC FR : Nat → Int32), ¬ st = 1 → 0 < n → q c (sl, wl, dl, st, fa, ri, si, so, ac, P, Q, fc, cx, L, F, R1, R2, R3, GC, GO, W, H, SC, FR) → wX_run_20 q (nI m) n c (nI (i + 1)) sl wl dl st fa ri si so ac P Q fc cx L F R1 R2 R3 GC GO W H SC FR := by
      intro q n c sl wl dl st fa ri si so ac P Q fc cx L F R1 R2 R3 GC GO W H SC FR hs hn hq
      obtain ⟨n, rfl⟩ := Nat.exists_eq_succ_of_ne_zero (n := n) (by omega)
      by_cases h : nI m ≤ nI (i + 1)
      · exact br_t h hq
      · exact br_f h (br_f hs hq)
    by_cases hs : st = 1
    · rcases sp_take (cx := cx) (st := st) (fa := fa) (ac := ac) (GO := GO) (W := W) (SC := SC) I with ⟨c1, hX⟩ | ⟨hw, sl1, wl1, dl1, st1, fa1, ri1, si1, so1, ac1, pa1, pb1, pc1, qa1, qb1, qc1, fc1, cx1, L1, F1, R11, R21, R31, GC1, GO1, W1, H1, SC1, FR1, I1, hX, hC⟩
      · refine ⟨0, sl, wl, dl, 3, c1, ri, si, so, ac, pa, pb, pc, qa, qb, qc, fc, cx, L, F, R1, R2, R3, GC, GO, W, H, SC, FR, I, fun q n c hn hq => ?_, fun J384 x3 x5 x8 kc ks bsl bwl bdl bst bfa bri bsi bso bac bP bQ bfc bcx bL bF bR1 bR2 bR3 bGC bGO bW bH bSC bFR n c hn hq => ?_⟩
        · obtain ⟨n, rfl⟩ := Nat.exists_eq_succ_of_ne_zero (n := n) (by omega)
          rw [Int32.add_zero] at hq
          exact br_f hlt (br_t hs (hX _ (br_t rfl (nm_r (nI_1 i) (hend q n c _ _ _ _ _ _ _ _ _ _ _ _ _ _ _ _ _ _ _ _ _ _ _ _ (by decide) (by omega) hq)))))
        · obtain ⟨n, rfl⟩ := Nat.exists_eq_succ_of_ne_zero (n := n) (by omega)
          rw [Int32.add_zero] at hq
          refine lz_457x I hlt (fun pv x22 x23 x24 hpv h22 h23 h24 => ?_)
          unfold wL_law_612
          exact br_f (by decide) ⟨2, br_f (by decide) (br_t hs (hX _ (br_t rfl (nm_e (br_t (by decide) (br_t rfl (lz_0 hq)))))))⟩
      · have hC' : ∀ (J384 J457 : Int32 → Int32 → Int32 → Int32 → Int32 → Int32 → Int32 → Int32 → Int32 → Int32 → Int32 → Int32 → Int32 → Int32 → Int32 → (Nat → Int32) → (Nat → Int32) → (Nat → Int32) → (Nat → Int32) → (Nat → Int32) → (Nat → Int32) → (Nat → Int32) → (Nat → Int32) → (Nat → Int32) → (Nat → Int32) → (Nat → Int32) → Int32 → Int32 → Int32 → Int32 → Int32 → Int32 → Int32 → Int32 → Int32 → Int32 → Int32 → Int32 → Int32 → (Nat → Int32) → (Nat → Int32) → (Nat → Int32) → (Nat → Int32) → (Nat → Int32) → (Nat → Int32) → (Nat → Int32) → (Nat → Int32) → (Nat → Int32) → (Nat → Int32) → (Nat → Int32) → Prop) (x3 x5 x8 : Int32) (x10 x11 x22 x23 x24 : Int32) (kc ks : Nat) (bsl bwl bdl bst bfa bri bsi bso bac bP bQ bfc bcx : Int32) (bL bF bR1 bR2 bR3 bGC bGO bW bH bSC bFR : Nat → Int32), (rg_W sl L pa pb → rg_MR F R2 pa (rg_mx ri pc) → ¬ x22 = 0) → (rg_W sl L pa pb → rg_MW F R1 pa (rg_mx ri pc) → ¬ x23 = 0) → (¬ fc = 0 → x24 = FR ((fc - 1) * 6 + 1).toNatClampNeg) → wL_law_885 post LL xs J384 J457 x3 x5 x8 (nI m) (x10 + 1) x11 1 kc ks sl1 wl1 dl1 st1 fa1 ri1 si1 so1 ac1 (rg_P pa1 pb1 pc1) (rg_P qa1 qb1 qc1) fc1 cx1 L1 F1 R11 R21 R31 GC1 GO1 W1 H1 SC1 FR1 bsl bwl bdl bst bfa bri bsi bso bac bP bQ bfc bcx bL bF bR1 bR2 bR3 bGC bGO bW bH bSC bFR → wL_law_634 post LL xs J384 J457 x3 x5 x8 (nI m) x10 x11 ri fc (((W (si * 32 + so).toNatClampNeg).toUInt32 >>> ((16 : Int32).toUInt32 &&& Int32.toUInt32 31)).toInt32 &&& 255) pa pb x22 x23 x24 1 kc ks sl1 wl1 dl1 st1 fa1 ri1 si1 so1 ac1 (rg_P pa1 pb1 pc1) (rg_P qa1 qb1 qc1) fc1 cx1 L1 F1 R11 R21 R31 GC1 GO1 W1 H1 SC1 FR1 bsl bwl bdl bst bfa bri bsi bso bac bP bQ bfc bcx bL bF bR1 bR2 bR3 bGC bGO bW bH bSC bFR :=
          fun J384 J457 x3 x5 x8 x10 x11 x22 x23 x24 kc ks bsl bwl bdl bst bfa bri bsi bso bac bP bQ bfc bcx bL bF bR1 bR2 bR3 bGC bGO bW bH bSC bFR h22 h23 h24 hp => hC post LL xs J384 J457 x3 x5 x8 (nI m) x10 x11 x22 x23 x24 kc ks bsl bwl bdl bst bfa bri bsi bso bac bP bQ bfc bcx bL bF bR1 bR2 bR3 bGC bGO bW bH bSC bFR h22 h23 h24 hp
        by_cases hs1 : st1 = 1
        · obtain ⟨r, sl2, wl2, dl2, st2, fa2, ri2, si2, so2, ac2, pa2, pb2, pc2, qa2, qb2, qc2, fc2, cx2, L2, F2, R12, R22, R32, GC2, GO2, W2, H2, SC2, FR2, V2, HX, HL⟩ := ih (i + 1) (by omega) sl1 wl1 dl1 st1 fa1 ri1 si1 so1 ac1 pa1 pb1 pc1 qa1 qb1 qc1 fc1 cx1 L1 F1 R11 R21 R31 GC1 GO1 W1 H1 SC1 FR1 I1
          refine ⟨1 + r, sl2, wl2, dl2, st2, fa2, ri2, si2, so2, ac2, pa2, pb2, pc2, qa2, qb2, qc2, fc2, cx2, L2, F2, R12, R22, R32, GC2, GO2, W2, H2, SC2, FR2, V2, fun q n c hn hq => ?_, fun J384 x3 x5 x8 kc ks bsl bwl bdl bst bfa bri bsi bso bac bP bQ bfc bcx bL bF bR1 bR2 bR3 bGC bGO bW bH bSC bFR n c hn hq => ?_⟩
          · obtain ⟨n, rfl⟩ := Nat.exists_eq_succ_of_ne_zero (n := n) (by omega)
            rw [← Int32.add_assoc] at hq
            exact br_f hlt (br_t hs (hX _ (br_f rg_1 (nm_e (nm_r (nI_1 i) (HX q n (c + 1) (by omega) hq))))))
          · obtain ⟨n, rfl⟩ := Nat.exists_eq_succ_of_ne_zero (n := n) (by omega)
            rw [← Int32.add_assoc] at hq
            refine lz_457x I hlt (fun pv x22 x23 x24 hpv h22 h23 h24 => ?_)
            have e := hpv hw
            subst e
            unfold wL_law_612
            refine br_f (by decide) ⟨2, br_f (by decide) (br_t hs (hX _ (br_f rg_1 (nm_r (e' := 1) (by decide) (nm_e (br_t (by decide) (br_f rg_1 (br_t rfl ?_))))))))⟩
            exact hC' J384 _ x3 x5 x8 c (nI i) x22 x23 x24 kc ks bsl bwl bdl bst bfa bri bsi bso bac bP bQ bfc bcx bL bF bR1 bR2 bR3 bGC bGO bW bH bSC bFR h22 h23 h24 (br_f rg_1 (xl_st0 (br_t hs1 (nm_r (nI_1 i) (HL J384 x3 x5 x8 kc ks bsl bwl bdl bst bfa bri bsi bso bac bP bQ bfc bcx bL bF bR1 bR2 bR3 bGC bGO bW bH bSC bFR n (c + 1) (by omega) hq)))))
        · refine ⟨1, sl1, wl1, dl1, st1, fa1, ri1, si1, so1, ac1, pa1, pb1, pc1, qa1, qb1, qc1, fc1, cx1, L1, F1, R11, R21, R31, GC1, GO1, W1, H1, SC1, FR1, I1, fun q n c hn hq => ?_, fun J384 x3 x5 x8 kc ks bsl bwl bdl bst bfa bri bsi bso bac bP bQ bfc bcx bL bF bR1 bR2 bR3 bGC bGO bW bH bSC bFR n c hn hq => ?_⟩
          · obtain ⟨n, rfl⟩ := Nat.exists_eq_succ_of_ne_zero (n := n) (by omega)
            exact br_f hlt (br_t hs (hX _ (br_f rg_1 (nm_e (nm_r (nI_1 i) (hend q n (c + 1) _ _ _ _ _ _ _ _ _ _ _ _ _ _ _ _ _ _ _ _ _ _ _ _ hs1 (by omega) hq))))))
          · obtain ⟨n, rfl⟩ := Nat.exists_eq_succ_of_ne_zero (n := n) (by omega)
            refine lz_457x I hlt (fun pv x22 x23 x24 hpv h22 h23 h24 => ?_)
            have e := hpv hw
            subst e
            unfold wL_law_612
            refine br_f (by decide) ⟨2, br_f (by decide) (br_t hs (hX _ (br_f rg_1 (nm_r (e' := 1) (by decide) (nm_e (br_t (by decide) (br_f rg_1 (br_t rfl ?_))))))))⟩
            exact hC' J384 _ x3 x5 x8 c (nI i) x22 x23 x24 kc ks bsl bwl bdl bst bfa bri bsi bso bac bP bQ bfc bcx bL bF bR1 bR2 bR3 bGC bGO bW bH bSC bFR h22 h23 h24 (br_f rg_1 (xl_st0 (br_f hs1 hq)))
    · refine ⟨0, sl, wl, dl, st, fa, ri, si, so, ac, pa, pb, pc, qa, qb, qc, fc, cx, L, F, R1, R2, R3, GC, GO, W, H, SC, FR, I, fun q n c hn hq => ?_, fun J384 x3 x5 x8 kc ks bsl bwl bdl bst bfa bri bsi bso bac bP bQ bfc bcx bL bF bR1 bR2 bR3 bGC bGO bW bH bSC bFR n c hn hq => ?_⟩
      · obtain ⟨n, rfl⟩ := Nat.exists_eq_succ_of_ne_zero (n := n) (by omega)
        rw [Int32.add_zero] at hq
        exact br_f hlt (br_f hs hq)
      · obtain ⟨n, rfl⟩ := Nat.exists_eq_succ_of_ne_zero (n := n) (by omega)
        rw [Int32.add_zero] at hq
        refine lz_457x I hlt (fun pv x22 x23 x24 hpv h22 h23 h24 => ?_)
        unfold wL_law_612
        exact br_f (by decide) ⟨1, br_f (by decide) (br_f hs (br_t rfl (lz_0 hq)))⟩
end
