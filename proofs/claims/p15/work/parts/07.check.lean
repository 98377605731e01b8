def pl_885 (post : Int32 → Prop) (LL : Nat) (xs : Nat → Int32) (J384 J457 : Int32 → Int32 → Int32 → Int32 → Int32 → Int32 → Int32 → Int32 → Int32 → Int32 → Int32 → Int32 → Int32 → Int32 → Int32 → (Nat → Int32) → (Nat → Int32) → (Nat → Int32) → (Nat → Int32) → (Nat → Int32) → (Nat → Int32) → (Nat → Int32) → (Nat → Int32) → (Nat → Int32) → (Nat → Int32) → (Nat → Int32) → Int32 → Int32 → Int32 → Int32 → Int32 → Int32 → Int32 → Int32 → Int32 → Int32 → Int32 → Int32 → Int32 → (Nat → Int32) → (Nat → Int32) → (Nat → Int32) → (Nat → Int32) → (Nat → Int32) → (Nat → Int32) → (Nat → Int32) → (Nat → Int32) → (Nat → Int32) → (Nat → Int32) → (Nat → Int32) → Prop) (x3 x5 x8 x9 : Int32) (x10 x11 x25 : Int32) (kc ks : Nat) (u : St2) (bsl bwl bdl bst bfa bri bsi bso bac bP bQ bfc bcx : Int32) (bL bF bR1 bR2 bR3 bGC bGO bW bH bSC bFR : Nat → Int32) : Prop := match u with
  | (sl, wl, dl, st, fa, ri, si, so, ac, P, Q, fc, cx, L, F, R1, R2, R3, GC, GO, W, H, SC, FR) => wL_law_885 post LL xs J384 J457 x3 x5 x8 x9 x10 x11 x25 kc ks sl wl dl st fa ri si so ac P Q fc cx L F R1 R2 R3 GC GO W H SC FR bsl bwl bdl bst bfa bri bsi bso bac bP bQ bfc bcx bL bF bR1 bR2 bR3 bGC bGO bW bH bSC bFR
def pl_634 (post : Int32 → Prop) (LL : Nat) (xs : Nat → Int32) (J384 J457 : Int32 → Int32 → Int32 → Int32 → Int32 → Int32 → Int32 → Int32 → Int32 → Int32 → Int32 → Int32 → Int32 → Int32 → Int32 → (Nat → Int32) → (Nat → Int32) → (Nat → Int32) → (Nat → Int32) → (Nat → Int32) → (Nat → Int32) → (Nat → Int32) → (Nat → Int32) → (Nat → Int32) → (Nat → Int32) → (Nat → Int32) → Int32 → Int32 → Int32 → Int32 → Int32 → Int32 → Int32 → Int32 → Int32 → Int32 → Int32 → Int32 → Int32 → (Nat → Int32) → (Nat → Int32) → (Nat → Int32) → (Nat → Int32) → (Nat → Int32) → (Nat → Int32) → (Nat → Int32) → (Nat → Int32) → (Nat → Int32) → (Nat → Int32) → (Nat → Int32) → Prop) (x3 x5 x8 x9 : Int32) (x10 x11 x12 x13 x16 x18 x19 x22 x23 x24 x25 : Int32) (kc ks : Nat) (u : St2) (bsl bwl bdl bst bfa bri bsi bso bac bP bQ bfc bcx : Int32) (bL bF bR1 bR2 bR3 bGC bGO bW bH bSC bFR : Nat → Int32) : Prop := match u with
  | (sl, wl, dl, st, fa, ri, si, so, ac, P, Q, fc, cx, L, F, R1, R2, R3, GC, GO, W, H, SC, FR) => wL_law_634 post LL xs J384 J457 x3 x5 x8 x9 x10 x11 x12 x13 x16 x18 x19 x22 x23 x24 x25 kc ks sl wl dl st fa ri si so ac P Q fc cx L F R1 R2 R3 GC GO W H SC FR bsl bwl bdl bst bfa bri bsi bso bac bP bQ bfc bcx bL bF bR1 bR2 bR3 bGC bGO bW bH bSC bFR
/-- what the law asks of a completed step -/
def pj_LC (sl ri pa pb pc fc : Int32) (L F R1 R2 FR : Nat → Int32) (w : Int32) (u : St2) : Prop :=
  ∀ (post : Int32 → Prop) (LL : Nat) (xs : Nat → Int32) (J384 J457 : Int32 → Int32 → Int32 → Int32 → Int32 → Int32 → Int32 → Int32 → Int32 → Int32 → Int32 → Int32 → Int32 → Int32 → Int32 → (Nat → Int32) → (Nat → Int32) → (Nat → Int32) → (Nat → Int32) → (Nat → Int32) → (Nat → Int32) → (Nat → Int32) → (Nat → Int32) → (Nat → Int32) → (Nat → Int32) → (Nat → Int32) → Int32 → Int32 → Int32 → Int32 → Int32 → Int32 → Int32 → Int32 → Int32 → Int32 → Int32 → Int32 → Int32 → (Nat → Int32) → (Nat → Int32) → (Nat → Int32) → (Nat → Int32) → (Nat → Int32) → (Nat → Int32) → (Nat → Int32) → (Nat → Int32) → (Nat → Int32) → (Nat → Int32) → (Nat → Int32) → Prop) (x3 x5 x8 x9 : Int32) (x10 x11 x22 x23 x24 : Int32) (kc ks : Nat) (bsl bwl bdl bst bfa bri bsi bso bac bP bQ bfc bcx : Int32) (bL bF bR1 bR2 bR3 bGC bGO bW bH bSC bFR : Nat → Int32),
    (rg_W sl L pa pb → rg_MR F R2 pa (rg_mx ri pc) → ¬ x22 = 0) → (rg_W sl L pa pb → rg_MW F R1 pa (rg_mx ri pc) → ¬ x23 = 0) → (¬ fc = 0 → x24 = FR ((fc - 1) * 6 + 1).toNatClampNeg) →
    pl_885 post LL xs J384 J457 x3 x5 x8 x9 (x10 + 1) x11 1 kc ks u bsl bwl bdl bst bfa bri bsi bso bac bP bQ bfc bcx bL bF bR1 bR2 bR3 bGC bGO bW bH bSC bFR → pl_634 post LL xs J384 J457 x3 x5 x8 x9 x10 x11 ri fc (((w).toUInt32 >>> ((16 : Int32).toUInt32 &&& Int32.toUInt32 31)).toInt32 &&& 255) pa pb x22 x23 x24 1 kc ks u bsl bwl bdl bst bfa bri bsi bso bac bP bQ bfc bcx bL bF bR1 bR2 bR3 bGC bGO bW bH bSC bFR
section
variable {sl wl dl st fa ri si so ac pa pb pc qa qb qc fc cx P Q : Int32} {L F R1 R2 R3 GC GO W H SC FR : Nat → Int32} {p : Int32 → Prop} {s o w : Int32}
variable {post : Int32 → Prop} {LL : Nat} {xs : Nat → Int32} {J384 J457 : Int32 → Int32 → Int32 → Int32 → Int32 → Int32 → Int32 → Int32 → Int32 → Int32 → Int32 → Int32 → Int32 → Int32 → Int32 → (Nat → Int32) → (Nat → Int32) → (Nat → Int32) → (Nat → Int32) → (Nat → Int32) → (Nat → Int32) → (Nat → Int32) → (Nat → Int32) → (Nat → Int32) → (Nat → Int32) → (Nat → Int32) → Int32 → Int32 → Int32 → Int32 → Int32 → Int32 → Int32 → Int32 → Int32 → Int32 → Int32 → Int32 → Int32 → (Nat → Int32) → (Nat → Int32) → (Nat → Int32) → (Nat → Int32) → (Nat → Int32) → (Nat → Int32) → (Nat → Int32) → (Nat → Int32) → (Nat → Int32) → (Nat → Int32) → (Nat → Int32) → Prop} {x3 x5 x8 x9 x10 x11 x12 x13 x16 x18 x19 x22 x23 x24 x25 x26 x27 x28 x29 x31 : Int32} {kc ks : Nat} {bsl bwl bdl bst bfa bri bsi bso bac bP bQ bfc bcx : Int32} {bL bF bR1 bR2 bR3 bGC bGO bW bH bSC bFR : Nat → Int32}
theorem xl_st0 (h : p (st)) : wpX_state p (sl, wl, dl, st, fa, ri, si, so, ac, P, Q, fc, cx, L, F, R1, R2, R3, GC, GO, W, H, SC, FR) 0 := br_f (by decide) (br_f (by decide) (br_t rfl h))
theorem xl_st1 (h : p (fa)) : wpX_state p (sl, wl, dl, st, fa, ri, si, so, ac, P, Q, fc, cx, L, F, R1, R2, R3, GC, GO, W, H, SC, FR) 1 := br_f (by decide) (br_f (by decide) (br_f (by decide) (br_t rfl h)))
theorem xl_st2 (h : p (ri)) : wpX_state p (sl, wl, dl, st, fa, ri, si, so, ac, P, Q, fc, cx, L, F, R1, R2, R3, GC, GO, W, H, SC, FR) 2 := br_f (by decide) (br_f (by decide) (br_f (by decide) (br_f (by decide) (br_t rfl h))))
theorem xl_st3 (h : p (si * 256 + so)) : wpX_state p (sl, wl, dl, st, fa, ri, si, so, ac, P, Q, fc, cx, L, F, R1, R2, R3, GC, GO, W, H, SC, FR) 3 := br_f (by decide) (br_f (by decide) (br_f (by decide) (br_f (by decide) (br_f (by decide) (br_t rfl h)))))
theorem xl_st4 (h : p (ac)) : wpX_state p (sl, wl, dl, st, fa, ri, si, so, ac, P, Q, fc, cx, L, F, R1, R2, R3, GC, GO, W, H, SC, FR) 4 := br_f (by decide) (br_f (by decide) (br_f (by decide) (br_f (by decide) (br_f (by decide) (br_f (by decide) (br_t rfl h))))))
theorem xl_st5 (h : p (P)) : wpX_state p (sl, wl, dl, st, fa, ri, si, so, ac, P, Q, fc, cx, L, F, R1, R2, R3, GC, GO, W, H, SC, FR) 5 := br_f (by decide) (br_f (by decide) (br_f (by decide) (br_f (by decide) (br_f (by decide) (br_f (by decide) (br_f (by decide) (br_t rfl h)))))))
theorem xl_st6 (h : p (Q)) : wpX_state p (sl, wl, dl, st, fa, ri, si, so, ac, P, Q, fc, cx, L, F, R1, R2, R3, GC, GO, W, H, SC, FR) 6 := br_f (by decide) (br_f (by decide) (br_f (by decide) (br_f (by decide) (br_f (by decide) (br_f (by decide) (br_f (by decide) (br_f (by decide) (br_t rfl h))))))))
theorem xl_st7 (h : p (fc)) : wpX_state p (sl, wl, dl, st, fa, ri, si, so, ac, P, Q, fc, cx, L, F, R1, R2, R3, GC, GO, W, H, SC, FR) 7 := br_f (by decide) (br_f (by decide) (br_f (by decide) (br_f (by decide) (br_f (by decide) (br_f (by decide) (br_f (by decide) (br_f (by decide) (br_f (by decide) (br_t rfl h)))))))))
theorem xl_st8 (h : p (cx)) : wpX_state p (sl, wl, dl, st, fa, ri, si, so, ac, P, Q, fc, cx, L, F, R1, R2, R3, GC, GO, W, H, SC, FR) 8 := br_f (by decide) (br_f (by decide) (br_f (by decide) (br_f (by decide) (br_f (by decide) (br_f (by decide) (br_f (by decide) (br_f (by decide) (br_f (by decide) (br_f (by decide) (br_t rfl h))))))))))
theorem xl_peek (c1 : rg_B 9 sl) (hS : rg_Seg L R1 R2 GC) (hw : rg_W sl L s o) (h : p (W (s * 32 + o).toNatClampNeg)) : wpX_peek p (sl, wl, dl, st, fa, ri, si, so, ac, P, Q, fc, cx, L, F, R1, R2, R3, GC, GO, W, H, SC, FR) s o := by
  unfold wpX_peek
  exact xl_isWord c1 (fun _ => br_f rg_1 ⟨rg_WI c1 hS hw, h⟩) (fun z => absurd hw z)
theorem lp_703 (h : x12 ≤ ri) (hp : wL_law_885 post LL xs J384 J457 x3 x5 x8 x9 x10 x11 x25 kc ks sl wl dl st fa ri si so ac P Q fc cx L F R1 R2 R3 GC GO W H SC FR bsl bwl bdl bst bfa bri bsi bso bac bP bQ bfc bcx bL bF bR1 bR2 bR3 bGC bGO bW bH bSC bFR) : wL_law_703 post LL xs J384 J457 x3 x5 x8 x9 x10 x11 x12 x13 x16 x24 x25 kc ks sl wl dl st fa ri si so ac P Q fc cx L F R1 R2 R3 GC GO W H SC FR bsl bwl bdl bst bfa bri bsi bso bac bP bQ bfc bcx bL bF bR1 bR2 bR3 bGC bGO bW bH bSC bFR := by
  unfold wL_law_703
  exact xl_st2 (xl_st7 (br_t h hp))
theorem lp_673 (h7 : ¬ x16 = 7) (h : x12 ≤ ri) (hp : wL_law_885 post LL xs J384 J457 x3 x5 x8 x9 x10 x11 x25 kc ks sl wl dl st fa ri si so ac P Q fc cx L F R1 R2 R3 GC GO W H SC FR bsl bwl bdl bst bfa bri bsi bso bac bP bQ bfc bcx bL bF bR1 bR2 bR3 bGC bGO bW bH bSC bFR) : wL_law_673 post LL xs J384 J457 x3 x5 x8 x9 x10 x11 x12 x13 x16 x18 x19 x23 x24 x25 kc ks sl wl dl st fa ri si so ac P Q fc cx L F R1 R2 R3 GC GO W H SC FR bsl bwl bdl bst bfa bri bsi bso bac bP bQ bfc bcx bL bF bR1 bR2 bR3 bGC bGO bW bH bSC bFR :=
  br_f h7 (lp_703 h hp)
theorem lp_634 (h6 : ¬ x16 = 6) (hp : wL_law_673 post LL xs J384 J457 x3 x5 x8 x9 (x10 + 1) x11 x12 x13 x16 x18 x19 x23 x24 1 kc ks sl wl dl st fa ri si so ac P Q fc cx L F R1 R2 R3 GC GO W H SC FR bsl bwl bdl bst bfa bri bsi bso bac bP bQ bfc bcx bL bF bR1 bR2 bR3 bGC bGO bW bH bSC bFR) : wL_law_634 post LL xs J384 J457 x3 x5 x8 x9 x10 x11 x12 x13 x16 x18 x19 x22 x23 x24 1 kc ks sl wl dl st fa ri si so ac P Q fc cx L F R1 R2 R3 GC GO W H SC FR bsl bwl bdl bst bfa bri bsi bso bac bP bQ bfc bcx bL bF bR1 bR2 bR3 bGC bGO bW bH bSC bFR :=
  br_t rfl (nm_e (br_f h6 hp))
theorem lp_ld (c1 : rg_B 9 sl) (hS : rg_Seg L R1 R2 GC) (hw : rg_W sl L s o) (h22 : ¬ x22 = 0) (e : ac = W (s * 32 + o).toNatClampNeg) (h : x12 ≤ ri) (hp : wL_law_885 post LL xs J384 J457 x3 x5 x8 x9 (x10 + 1) x11 1 kc ks sl wl dl st fa ri si so ac P Q fc cx L F R1 R2 R3 GC GO W H SC FR bsl bwl bdl bst bfa bri bsi bso bac bP bQ bfc bcx bL bF bR1 bR2 bR3 bGC bGO bW bH bSC bFR) : wL_law_634 post LL xs J384 J457 x3 x5 x8 x9 x10 x11 x12 x13 6 s o x22 x23 x24 1 kc ks sl wl dl st fa ri si so ac P Q fc cx L F R1 R2 R3 GC GO W H SC FR bsl bwl bdl bst bfa bri bsi bso bac bP bQ bfc bcx bL bF bR1 bR2 bR3 bGC bGO bW bH bSC bFR :=
  br_t rfl (nm_e (br_t rfl (br_f h22 (xl_st4 (xl_peek c1 hS hw (br_t e (lp_673 (by decide) h hp)))))))
theorem lp_st (c1 : rg_B 9 sl) (hS : rg_Seg L R1 R2 GC) (hw : rg_W sl L s o) (h23 : ¬ x23 = 0) (e : W (s * 32 + o).toNatClampNeg = ac) (h : x12 ≤ ri) (hp : wL_law_885 post LL xs J384 J457 x3 x5 x8 x9 (x10 + 1) x11 1 kc ks sl wl dl st fa ri si so ac P Q fc cx L F R1 R2 R3 GC GO W H SC FR bsl bwl bdl bst bfa bri bsi bso bac bP bQ bfc bcx bL bF bR1 bR2 bR3 bGC bGO bW bH bSC bFR) : wL_law_634 post LL xs J384 J457 x3 x5 x8 x9 x10 x11 x12 x13 7 s o x22 x23 x24 1 kc ks sl wl dl st fa ri si so ac P Q fc cx L F R1 R2 R3 GC GO W H SC FR bsl bwl bdl bst bfa bri bsi bso bac bP bQ bfc bcx bL bF bR1 bR2 bR3 bGC bGO bW bH bSC bFR :=
  lp_634 (by decide) (br_t rfl (br_f h23 (xl_peek c1 hS hw (xl_st4 (br_t e (lp_703 h hp))))))
theorem lp_878 (hp : wL_law_885 post LL xs J384 J457 x3 x5 x8 x9 x10 x11 x25 kc ks sl wl dl st fa ri si so ac P Q fc cx L F R1 R2 R3 GC GO W H SC FR bsl bwl bdl bst bfa bri bsi bso bac bP bQ bfc bcx bL bF bR1 bR2 bR3 bGC bGO bW bH bSC bFR) : wL_law_878 post LL xs J384 J457 x3 x5 x8 x9 x10 x11 x25 1 kc ks sl wl dl st fa ri si so ac P Q fc cx L F R1 R2 R3 GC GO W H SC FR bsl bwl bdl bst bfa bri bsi bso bac bP bQ bfc bcx bL bF bR1 bR2 bR3 bGC bGO bW bH bSC bFR := br_f (by decide) hp
theorem lp_ret (h1 : fc = x13 - 1) (h2 : ri = x24) (hp : wL_law_885 post LL xs J384 J457 x3 x5 x8 x9 (x10 + 1) x11 1 kc ks sl wl dl st fa ri si so ac P Q fc cx L F R1 R2 R3 GC GO W H SC FR bsl bwl bdl bst bfa bri bsi bso bac bP bQ bfc bcx bL bF bR1 bR2 bR3 bGC bGO bW bH bSC bFR) : wL_law_634 post LL xs J384 J457 x3 x5 x8 x9 x10 x11 x12 x13 13 x18 x19 x22 x23 x24 1 kc ks sl wl dl st fa ri si so ac P Q fc cx L F R1 R2 R3 GC GO W H SC FR bsl bwl bdl bst bfa bri bsi bso bac bP bQ bfc bcx bL bF bR1 bR2 bR3 bGC bGO bW bH bSC bFR := by
  refine lp_634 (by decide) (br_f (by decide) ?_)
  by_cases h : x12 ≤ ri
  · exact lp_703 h hp
  · unfold wL_law_703
    exact xl_st2 (xl_st7 (br_f h (br_f (by decide) (br_t rfl (br_t h1 (br_t h2 (lp_878 hp)))))))
theorem xl_gateV {s' : Int32} {i c : Nat} (e : s' = s) (c1 : rg_B 9 sl) (hd : rg_D sl L s) (hc : GC s.toNatClampNeg = nI c) (hc5 : c < 5) (hi : i < c) (h : p (GO (s * 4 + nI i).toNatClampNeg)) : wpX_gate p (sl, wl, dl, st, fa, ri, si, so, ac, P, Q, fc, cx, L, F, R1, R2, R3, GC, GO, W, H, SC, FR) s' (nI i) := by
  subst e
  unfold wpX_gate
  refine xl_isDefined c1 (fun _ => br_f rg_1 (br_f (nI_pos (by omega)) ⟨rg_DI c1 hd, br_t ?_ ⟨rg_i4 (rg_D8' c1 hd) ⟨i, by omega, rfl⟩, h⟩⟩)) (fun z => absurd hd z)
  rw [hc]
  exact nI_lt hi (by omega)
theorem lp_808 {c : Nat} (c1 : rg_B 9 sl) (hd : rg_D sl L s) (hc : GC s.toNatClampNeg = nI c) (hc5 : c < 5) (e1 : x29 / 256 = s) (e2 : x29 - x29 / 256 * 256 = o) (hp : wL_law_885 post LL xs J384 J457 x3 x5 x8 x9 x10 x11 x25 kc ks sl wl dl st fa ri si so ac P Q fc cx L F R1 R2 R3 GC GO W H SC FR bsl bwl bdl bst bfa bri bsi bso bac bP bQ bfc bcx bL bF bR1 bR2 bR3 bGC bGO bW bH bSC bFR) : ∀ (d i : Nat) (x28 : Int32), i + d = c → (x28 = 1 ∨ ∃ j, i ≤ j ∧ j < c ∧ GO (s * 4 + nI j).toNatClampNeg = o) → wL_law_808 post LL xs J384 J457 x3 x5 x8 x9 x10 x11 x13 12 x24 x25 x26 x27 x29 (nI c) kc ks sl wl dl st fa ri si so ac P Q fc cx L F R1 R2 R3 GC GO W H SC FR bsl bwl bdl bst bfa bri bsi bso bac bP bQ bfc bcx bL bF bR1 bR2 bR3 bGC bGO bW bH bSC bFR (d + 1) x28 (nI i) := by
  intro d
  induction d with
  | zero =>
    intro i x28 hi hx
    have h28 : x28 = 1 := hx.elim id (fun ⟨j, h1, h2, _⟩ => absurd h2 (by omega))
    subst h28
    exact br_t (nI_le (by omega) (by omega)) (br_f (by decide) (lp_878 hp))
  | succ d ih =>
    intro i x28 hi hx
    refine br_f (nI_ge (by omega) (by omega)) (br_f (nI_ge (b := 8) (by omega) (by omega)) ⟨by decide, xl_gateV e1 c1 hd hc hc5 (by omega) ⟨by decide, br_c (fun h => nm_r (nI_1 i) (ih (i + 1) 1 (by omega) (Or.inl rfl))) (fun h => nm_r (nI_1 i) (ih (i + 1) x28 (by omega) ?_))⟩⟩)
    rw [e2] at h
    refine hx.imp id ?_
    rintro ⟨j, h1, h2, h3⟩
    refine ⟨j, ?_, h2, h3⟩
    apply Nat.lt_of_le_of_ne h1
    intro e
    subst e
    exact h h3
end
/-- the segment word: its brackets and its gates can be read back -/
theorem rg_sgN {l f a b c g : Nat} (hl : l < 256) (hf : f < 16) (ha : a < 16) (hb : b < 16) (hc : c < 16) (hg : g < 128) : (((nI l ||| nI f <<< ((8 : Int32) &&& 31)) ||| ((nI a <<< ((12 : Int32) &&& 31) ||| nI b <<< ((16 : Int32) &&& 31)) ||| nI c <<< ((20 : Int32) &&& 31))) ||| nI g <<< ((24 : Int32) &&& 31)) = nI (l + f * 256 + a * 4096 + b * 65536 + c * 1048576 + g * 16777216) := by
  rw [pk_shlN (n := f) _ 8 (by decide) (by omega), pk_shlN (n := a) _ 12 (by decide) (by omega), pk_shlN (n := b) _ 16 (by decide) (by omega), pk_shlN (n := c) _ 20 (by decide) (by omega), pk_shlN (n := g) _ 24 (by decide) (by omega)]
  rw [rg_orN, rg_orN, rg_orN, rg_orN, rg_orN]
  have o1 : l ||| f * 2 ^ 8 = l + f * 256 := by
    rw [Nat.or_comm, Nat.mul_comm, ← Nat.two_pow_add_eq_or_of_lt (i := 8) (by omega)]
    omega
  have o2 : a * 2 ^ 12 ||| b * 2 ^ 16 = a * 4096 + b * 65536 := by
    rw [Nat.or_comm, Nat.mul_comm b, ← Nat.two_pow_add_eq_or_of_lt (i := 16) (by omega)]
    omega
  have o3 : (a * 4096 + b * 65536) ||| c * 2 ^ 20 = a * 4096 + b * 65536 + c * 1048576 := by
    rw [Nat.or_comm, Nat.mul_comm c, ← Nat.two_pow_add_eq_or_of_lt (i := 20) (by omega)]
    omega
  have o4 : (l + f * 256) ||| (a * 4096 + b * 65536 + c * 1048576) = l + f * 256 + (a * 4096 + b * 65536 + c * 1048576) := by
    have e : a * 4096 + b * 65536 + c * 1048576 = 2 ^ 12 * (a + b * 16 + c * 256) := by omega
    rw [e, Nat.or_comm, ← Nat.two_pow_add_eq_or_of_lt (i := 12) (by omega)]
    omega
  have o5 : (l + f * 256 + (a * 4096 + b * 65536 + c * 1048576)) ||| g * 2 ^ 24 = l + f * 256 + (a * 4096 + b * 65536 + c * 1048576) + g * 16777216 := by
    rw [Nat.or_comm, Nat.mul_comm g, ← Nat.two_pow_add_eq_or_of_lt (i := 24) (by omega)]
    omega
  rw [o1, o2, o3, o4, o5]
  exact congrArg nI (by omega)
theorem rg_sgR {l f a b c g : Nat} (hl : l < 256) (hf : f < 16) (ha : a < 16) (hb : b < 16) (hc : c < 16) (hg : g < 128) : (nI (l + f * 256 + a * 4096 + b * 65536 + c * 1048576 + g * 16777216) >>> ((16 : Int32) &&& 31)) &&& 15 = nI b := by
  rw [pk_shrN (by omega) _ 16 (by decide), pk_andN (by omega) 4 (by decide)]
  exact congrArg nI (by omega)
theorem rg_sgG {l f a b c g : Nat} (hl : l < 256) (hf : f < 16) (ha : a < 16) (hb : b < 16) (hc : c < 16) (hg : g < 128) : (nI (l + f * 256 + a * 4096 + b * 65536 + c * 1048576 + g * 16777216) >>> ((24 : Int32) &&& 31)) &&& 255 = nI g := by
  rw [pk_shrN (by omega) _ 24 (by decide), pk_andN (by omega) 8 (by decide)]
  exact congrArg nI (by omega)
theorem rg_sgM {n : Nat} (h : n < 2 ^ 31) : ¬ nI n = -1 := by
  intro z
  have h1 : ¬ nI n < 0 := nI_pos h
  rw [z] at h1
  exact h1 (by decide)
section
variable {sl wl dl st fa ri si so ac pa pb pc qa qb qc fc cx P Q : Int32} {L F R1 R2 R3 GC GO W H SC FR : Nat → Int32} {p : Int32 → Prop} {s o w : Int32}
variable {post : Int32 → Prop} {LL : Nat} {xs : Nat → Int32} {J384 J457 : Int32 → Int32 → Int32 → Int32 → Int32 → Int32 → Int32 → Int32 → Int32 → Int32 → Int32 → Int32 → Int32 → Int32 → Int32 → (Nat → Int32) → (Nat → Int32) → (Nat → Int32) → (Nat → Int32) → (Nat → Int32) → (Nat → Int32) → (Nat → Int32) → (Nat → Int32) → (Nat → Int32) → (Nat → Int32) → (Nat → Int32) → Int32 → Int32 → Int32 → Int32 → Int32 → Int32 → Int32 → Int32 → Int32 → Int32 → Int32 → Int32 → Int32 → (Nat → Int32) → (Nat → Int32) → (Nat → Int32) → (Nat → Int32) → (Nat → Int32) → (Nat → Int32) → (Nat → Int32) → (Nat → Int32) → (Nat → Int32) → (Nat → Int32) → (Nat → Int32) → Prop} {x3 x5 x8 x9 x10 x11 x12 x13 x16 x18 x19 x22 x23 x24 x25 x26 x27 x28 x29 x31 : Int32} {kc ks : Nat} {bsl bwl bdl bst bfa bri bsi bso bac bP bQ bfc bcx : Int32} {bL bF bR1 bR2 bR3 bGC bGO bW bH bSC bFR : Nat → Int32}
theorem xl_segV {s' : Int32} (e : s' = s) (c1 : rg_B 9 sl) (hS : rg_Seg L R1 R2 GC) (hA : ∀ s, rg_B 8 (F s) ∧ rg_B 8 (R3 s)) (hd : rg_D sl L s) (h : ∀ r : Int32, ¬ r = -1 → (r >>> ((16 : Int32) &&& 31)) &&& 15 = R2 s.toNatClampNeg → (r >>> ((24 : Int32) &&& 31)) &&& 255 = GC s.toNatClampNeg → p r) : wpX_segment p (sl, wl, dl, st, fa, ri, si, so, ac, P, Q, fc, cx, L, F, R1, R2, R3, GC, GO, W, H, SC, FR) s' := by
  subst e
  unfold wpX_segment
  have hv := rg_DI c1 hd
  refine xl_isDefined c1 (fun _ => br_f rg_1 ⟨hv, hv, hv, nm_e ⟨hv, hv, hv, ?_⟩⟩) (fun z => absurd hd z)
  obtain ⟨⟨l, hl, el⟩, ⟨a, ha, ea⟩, ⟨b, hb, eb⟩, _, ⟨g, hg, eg⟩⟩ := hS s'.toNatClampNeg
  obtain ⟨⟨f, hf, ef⟩, ⟨c, hc, ec⟩⟩ := hA s'.toNatClampNeg
  rw [el, ea, eb, eg, ef, ec, rg_sgN (by omega) (by omega) (by omega) (by omega) (by omega) (by omega)]
  refine h _ (rg_sgM (by omega)) ?_ ?_
  · rw [eb]; exact rg_sgR (by omega) (by omega) (by omega) (by omega) (by omega) (by omega)
  · rw [eg]; exact rg_sgG (by omega) (by omega) (by omega) (by omega) (by omega) (by omega)
theorem xl_frame1 {n : Nat} (hn : n < 16) (h : p (FR (nI n * 6 + 1).toNatClampNeg)) : wpX_frame p (sl, wl, dl, st, fa, ri, si, so, ac, P, Q, nI n + 1, cx, L, F, R1, R2, R3, GC, GO, W, H, SC, FR) (nI n) 1 := by
  refine br_f (nI_pos (by omega)) (br_f ?_ (br_f (by decide) (br_t (by decide) ⟨rg_i6 (o := nI 1) ⟨n, hn, rfl⟩ ⟨1, by decide, rfl⟩, h⟩)))
  rw [nI_1]
  exact nI_ge (by omega) (by omega)
/-- a call that lowered the ring, as the law checks it -/
theorem lp_call {n : Nat} (hn : n < 16) (c1 : rg_B 9 sl) (hS : rg_Seg L R1 R2 GC) (hA : ∀ s, rg_B 8 (F s) ∧ rg_B 8 (R3 s)) (hd : rg_D sl L s) (ho : rg_B 256 o) (hfr : FR (nI n * 6 + 1).toNatClampNeg = x12) (hri : x12 ≤ ri ∨ (ri = R2 s.toNatClampNeg ∧ rg_G GC GO s o)) (hp : wL_law_885 post LL xs J384 J457 x3 x5 x8 x9 (x10 + 1) x11 1 kc ks sl wl dl st fa ri s o ac P Q (nI n + 1) cx L F R1 R2 R3 GC GO W H SC FR bsl bwl bdl bst bfa bri bsi bso bac bP bQ bfc bcx bL bF bR1 bR2 bR3 bGC bGO bW bH bSC bFR) : wL_law_634 post LL xs J384 J457 x3 x5 x8 x9 x10 x11 x12 (nI n) 12 x18 x19 x22 x23 x24 1 kc ks sl wl dl st fa ri s o ac P Q (nI n + 1) cx L F R1 R2 R3 GC GO W H SC FR bsl bwl bdl bst bfa bri bsi bso bac bP bQ bfc bcx bL bF bR1 bR2 bR3 bGC bGO bW bH bSC bFR := by
  refine lp_634 (by decide) (br_f (by decide) ?_)
  by_cases h : x12 ≤ ri
  · exact lp_703 h hp
  · obtain ⟨hr, hg⟩ := hri.elim (fun z => absurd z h) id
    have hs8 := rg_D8' c1 hd
    unfold wL_law_703
    refine xl_st2 (xl_st7 (br_f h (br_t rfl (br_t rfl (xl_frame1 hn (br_t hfr (xl_st3 ⟨by decide, xl_segV (rg_rD hs8 ho) c1 hS hA hd (fun r h1 h2 h3 => br_f h1 (br_t (h2.trans hr.symm) (nm_r h3 ?_)))⟩)))))))
    obtain ⟨c, hc, ec⟩ := (hS s.toNatClampNeg).2.2.2.2
    rw [ec]
    refine ⟨c + 1, lp_808 c1 hd ec hc (rg_rD hs8 ho) (rg_rR hs8 ho) hp c 0 0 (by omega) (Or.inr ?_)⟩
    obtain ⟨j, hj, h4, h5⟩ := hg
    rw [ec, nI_leI (by omega) (by omega)] at h4
    exact ⟨j, by omega, by omega, h5⟩
end
