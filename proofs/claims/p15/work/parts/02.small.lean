/-! the conditions that both sides test -/
def rg_D (sl : Int32) (L : Nat → Int32) (s : Int32) : Prop := ¬ s < 0 ∧ ¬ sl ≤ s ∧ ¬ L s.toNatClampNeg ≤ 0
def rg_W (sl : Int32) (L : Nat → Int32) (s o : Int32) : Prop := rg_D sl L s ∧ ¬ o < 0 ∧ ¬ L s.toNatClampNeg ≤ o
def rg_MR (F R2 : Nat → Int32) (s e : Int32) : Prop := ¬ F s.toNatClampNeg &&& 1 = 0 ∧ ¬ R2 s.toNatClampNeg < e
def rg_MW (F R1 : Nat → Int32) (s e : Int32) : Prop := ¬ F s.toNatClampNeg &&& 2 = 0 ∧ ¬ R1 s.toNatClampNeg < e
def rg_MX (F R1 R2 : Nat → Int32) (s e : Int32) : Prop := ¬ F s.toNatClampNeg &&& 4 = 0 ∧ ¬ e < R1 s.toNatClampNeg ∧ ¬ R2 s.toNatClampNeg < e
def rg_MC (F R3 : Nat → Int32) (s e : Int32) : Prop := ¬ F s.toNatClampNeg &&& 4 = 0 ∧ ¬ R3 s.toNatClampNeg < e
def rg_G (GC GO : Nat → Int32) (s o : Int32) : Prop := ∃ i : Nat, i < 4 ∧ ¬ GC s.toNatClampNeg ≤ nI i ∧ GO (s * 4 + nI i).toNatClampNeg = o
/-! what holds of the states -/
def rg_Seg (L R1 R2 GC : Nat → Int32) : Prop := ∀ s, rg_B 33 (L s) ∧ rg_B 8 (R1 s) ∧ rg_B 8 (R2 s) ∧ R1 s ≤ R2 s ∧ rg_B 5 (GC s)
def rg_Dd (D L : Nat → Int32) : Prop := ∀ s, D s = 0 ↔ L s ≤ 0
def rg_Hs (H : Nat → Int32) : Prop := ∀ r, rg_B 17 (H r)
def rg_Pt (x : Int32) : Prop := ∃ a b c, rg_B 256 a ∧ rg_B 256 b ∧ rg_B 8 c ∧ x = rg_P a b c
def rg_F6 (FR : Nat → Int32) (b : Nat) : Prop := (∃ s o, rg_B 8 s ∧ rg_B 256 o ∧ FR b = s * 256 + o) ∧ rg_B 8 (FR (b + 1)) ∧ rg_B 17 (FR (b + 2)) ∧ rg_Pt (FR (b + 3)) ∧ rg_Pt (FR (b + 4))
def rg_Fs (fc : Int32) (FR : Nat → Int32) : Prop := ∃ n : Nat, n < 17 ∧ fc = nI n ∧ ∀ f, f < n → rg_F6 FR (f * 6)
theorem rg_D8 {sl s : Int32} (c1 : rg_B 9 sl) (h0 : ¬ s < 0) (h1 : ¬ sl ≤ s) : rg_B 8 s := rg_Bl (n := 8) c1 (by decide) h0 (rg_nle.mp h1)
theorem rg_Dv {sl s : Int32} (c1 : rg_B 9 sl) (h0 : ¬ s < 0) (h1 : ¬ sl ≤ s) : vp_in s 8 := rg_Bin (rg_D8 c1 h0 h1) (by decide)
theorem rg_D8' {sl s : Int32} {L : Nat → Int32} (c1 : rg_B 9 sl) (h : rg_D sl L s) : rg_B 8 s := rg_D8 c1 h.1 h.2.1
theorem rg_DI {sl s : Int32} {L : Nat → Int32} (c1 : rg_B 9 sl) (h : rg_D sl L s) : vp_in s 8 := rg_Dv c1 h.1 h.2.1
theorem rg_O32 {L R1 R2 GC : Nat → Int32} {o : Int32} (hS : rg_Seg L R1 R2 GC) (k : Nat) (h0 : ¬ o < 0) (h : ¬ L k ≤ o) : rg_B 32 o := rg_Bl (n := 32) (hS k).1 (by decide) h0 (rg_nle.mp h)
theorem rg_WI {sl s o : Int32} {L R1 R2 GC : Nat → Int32} (c1 : rg_B 9 sl) (hS : rg_Seg L R1 R2 GC) (h : rg_W sl L s o) : vp_in (s * 32 + o) 256 := rg_i32 (rg_D8' c1 h.1) (rg_O32 hS _ h.2.1 h.2.2)
/-- the greater of two, as the reference writes it -/
noncomputable def rg_mx (a b : Int32) : Int32 := if a ≤ b then b else a
theorem rg_1 : ¬ (1 : Int32) = 0 := by decide
theorem rg_2 : ¬ (2 : Int32) = 0 := by decide
theorem rg_3 : ¬ (3 : Int32) = 0 := by decide
section
variable {sl wl dl st fa ri si so ac P Q fc cx : Int32} {L F R1 R2 R3 GC GO W H SC FR : Nat → Int32}
variable {p : Int32 → Prop} {ps : St2 → Prop} {pq : Int32 → St2 → Prop} {s o e k : Int32}
theorem xl_isDefined (c1 : rg_B 9 sl) (ht : rg_D sl L s → p 1) (hf : ¬ rg_D sl L s → p 0) : wpX_isDefined p (sl, wl, dl, st, fa, ri, si, so, ac, P, Q, fc, cx, L, F, R1, R2, R3, GC, GO, W, H, SC, FR) s :=
  br_c (fun h => hf fun z => z.1 h) (fun h0 => br_c (fun h => hf fun z => z.2.1 h) (fun h1 => ⟨rg_Dv c1 h0 h1, br_c (fun h => hf fun z => z.2.2 h) (fun h2 => ht ⟨h0, h1, h2⟩)⟩))
theorem xl_isWord (c1 : rg_B 9 sl) (ht : rg_W sl L s o → p 1) (hf : ¬ rg_W sl L s o → p 0) : wpX_isWord p (sl, wl, dl, st, fa, ri, si, so, ac, P, Q, fc, cx, L, F, R1, R2, R3, GC, GO, W, H, SC, FR) s o := by
  unfold wpX_isWord
  exact xl_isDefined c1 (fun hd => br_f rg_1 (br_c (fun h => hf fun z => z.2.1 h) (fun h0 => ⟨rg_DI c1 hd, br_c (fun h => hf fun z => z.2.2 h) (fun h2 => ht ⟨hd, h0, h2⟩)⟩))) (fun hd => br_t rfl (hf fun z => hd z.1))
theorem xl_hasFlag (hv : vp_in s 8) (ht : ¬ F s.toNatClampNeg &&& k = 0 → p 1) (hf : F s.toNatClampNeg &&& k = 0 → p 0) : wpX_hasFlag p (sl, wl, dl, st, fa, ri, si, so, ac, P, Q, fc, cx, L, F, R1, R2, R3, GC, GO, W, H, SC, FR) s k :=
  And.intro hv (br_c hf ht)
theorem xl_mayRead (hv : vp_in s 8) (ht : rg_MR F R2 s e → p 1) (hf : ¬ rg_MR F R2 s e → p 0) : wpX_mayRead p (sl, wl, dl, st, fa, ri, si, so, ac, P, Q, fc, cx, L, F, R1, R2, R3, GC, GO, W, H, SC, FR) s e := by
  unfold wpX_mayRead
  exact xl_hasFlag hv (fun h => br_f rg_1 ⟨hv, br_c (fun h1 => hf fun z => z.2 h1) (fun h1 => ht ⟨h, h1⟩)⟩) (fun h => br_t rfl (hf fun z => z.1 h))
theorem xl_mayWrite (hv : vp_in s 8) (ht : rg_MW F R1 s e → p 1) (hf : ¬ rg_MW F R1 s e → p 0) : wpX_mayWrite p (sl, wl, dl, st, fa, ri, si, so, ac, P, Q, fc, cx, L, F, R1, R2, R3, GC, GO, W, H, SC, FR) s e := by
  unfold wpX_mayWrite
  exact xl_hasFlag hv (fun h => br_f rg_1 ⟨hv, br_c (fun h1 => hf fun z => z.2 h1) (fun h1 => ht ⟨h, h1⟩)⟩) (fun h => br_t rfl (hf fun z => z.1 h))
theorem xl_isCallable (hv : vp_in s 8) (ht : rg_MC F R3 s e → p 1) (hf : ¬ rg_MC F R3 s e → p 0) : wpX_isCallable p (sl, wl, dl, st, fa, ri, si, so, ac, P, Q, fc, cx, L, F, R1, R2, R3, GC, GO, W, H, SC, FR) s e := by
  unfold wpX_isCallable
  exact xl_hasFlag hv (fun h => br_f rg_1 ⟨hv, br_c (fun h1 => hf fun z => z.2 h1) (fun h1 => ht ⟨h, h1⟩)⟩) (fun h => br_t rfl (hf fun z => z.1 h))
theorem xl_mayExecute (hv : vp_in s 8) (ht : rg_MX F R1 R2 s e → p 1) (hf : ¬ rg_MX F R1 R2 s e → p 0) : wpX_mayExecute p (sl, wl, dl, st, fa, ri, si, so, ac, P, Q, fc, cx, L, F, R1, R2, R3, GC, GO, W, H, SC, FR) s e := by
  unfold wpX_mayExecute
  exact xl_hasFlag hv (fun h => br_f rg_1 ⟨hv, br_c (fun h1 => hf fun z => z.2.1 h1) (fun h1 => ⟨hv, br_c (fun h2 => hf fun z => z.2.2 h2) (fun h2 => ht ⟨h, h1, h2⟩)⟩)⟩) (fun h => br_t rfl (hf fun z => z.1 h))
theorem xl_gateLoop {c : Nat} (hs : rg_B 8 s) (hc : c < 5) (hC : GC s.toNatClampNeg = nI c) (ht : rg_G GC GO s o → p 1) (hf : ¬ rg_G GC GO s o → p 0) : ∀ d i : Nat, i + d = c → (∀ j, j < i → ¬ GO (s * 4 + nI j).toNatClampNeg = o) → wX_isGate_15 p o (s * 4) (nI c) sl wl dl st fa ri si so ac P Q fc cx L F R1 R2 R3 GC GO W H SC FR (d + 1) (nI i) := by
  intro d
  induction d with
  | zero =>
    intro i hi hn
    refine br_t (nI_le (by omega) (by omega)) (hf ?_)
    rintro ⟨j, hj, h1, h2⟩
    rw [hC, nI_leI (by omega) (by omega)] at h1
    exact hn j (by omega) h2
  | succ d ih =>
    intro i hi hn
    refine br_f (nI_ge (by omega) (by omega)) ⟨rg_i4 hs ⟨i, by omega, rfl⟩, br_c (fun h => ht ⟨i, by omega, ?_, h⟩) (fun h => nm_r (nI_1 i) (ih (i + 1) (by omega) ?_))⟩
    · rw [hC]
      exact nI_ge (by omega) (by omega)
    · intro j hj
      by_cases e : j = i
      · rw [e]; exact h
      · exact hn j (by omega)
theorem xl_isGate (hs : rg_B 8 s) (hc : rg_B 5 (GC s.toNatClampNeg)) (ht : rg_G GC GO s o → p 1) (hf : ¬ rg_G GC GO s o → p 0) : wpX_isGate p (sl, wl, dl, st, fa, ri, si, so, ac, P, Q, fc, cx, L, F, R1, R2, R3, GC, GO, W, H, SC, FR) s o := by
  obtain ⟨c, hc, hC⟩ := hc
  exact nm_e ⟨rg_Bin hs (by decide), nm_r hC ⟨c + 1, xl_gateLoop hs hc hC ht hf c 0 (by omega) (fun j hj => absurd hj (Nat.not_lt_zero j))⟩⟩
theorem xl_placeFault (c1 : rg_B 9 sl) (h1 : ¬ rg_D sl L s → p 1) (h2 : rg_D sl L s → L s.toNatClampNeg ≤ o → p 2) (h3 : rg_D sl L s → ¬ L s.toNatClampNeg ≤ o → p 0) : wpX_placeFault p (sl, wl, dl, st, fa, ri, si, so, ac, P, Q, fc, cx, L, F, R1, R2, R3, GC, GO, W, H, SC, FR) s o := by
  unfold wpX_placeFault
  exact xl_isDefined c1 (fun hd => br_f rg_1 ⟨rg_DI c1 hd, br_c (h2 hd) (h3 hd)⟩) (fun hd => br_t rfl (h1 hd))
theorem xl_fetchFault (c1 : rg_B 9 sl) (h1 : ¬ rg_D sl L si → p 1) (h2 : rg_D sl L si → L si.toNatClampNeg ≤ so → p 2) (h3 : rg_D sl L si → ¬ L si.toNatClampNeg ≤ so → ¬ rg_MX F R1 R2 si ri → p 3) (h4 : rg_D sl L si → ¬ L si.toNatClampNeg ≤ so → rg_MX F R1 R2 si ri → p 0) : wpX_fetchFault p (sl, wl, dl, st, fa, ri, si, so, ac, P, Q, fc, cx, L, F, R1, R2, R3, GC, GO, W, H, SC, FR) := by
  unfold wpX_fetchFault
  exact xl_placeFault c1 (fun hd => br_f rg_1 (h1 hd)) (fun hd h => br_f rg_2 (h2 hd h)) (fun hd h => br_t rfl (xl_mayExecute (rg_DI c1 hd) (fun hx => br_f rg_1 (h4 hd h hx)) (fun hx => br_t rfl (h3 hd h hx))))
theorem xl_clamp {a b c : Int32} (h : p (if b ≤ a then (if a ≤ c then a else c) else b)) : wpX_clamp p () a b c := by
  by_cases h1 : b ≤ a
  · by_cases h2 : a ≤ c
    · rw [if_pos h1, if_pos h2] at h; exact br_t h1 (br_t h2 h)
    · rw [if_pos h1, if_neg h2] at h; exact br_t h1 (br_f h2 h)
  · rw [if_neg h1] at h; exact br_f h1 h
theorem xl_clearLoop {W0 : Nat → Int32} (hs : rg_B 8 s) (hp : ps (sl, wl, dl, st, fa, ri, si, so, ac, P, Q, fc, cx, L, F, R1, R2, R3, GC, GO, rg_cl W0 (s * 32) 32, H, SC, FR)) : ∀ d i : Nat, i + d = 32 → wX_clearWords_7 ps (s * 32) sl wl dl st fa ri si so ac P Q fc cx (d + 1) (nI i) L F R1 R2 R3 GC GO (rg_cl W0 (s * 32) i) H SC FR := by
  intro d
  induction d with
  | zero =>
    intro i hi
    have e : i = 32 := by omega
    subst e
    exact br_t (by decide) hp
  | succ d ih =>
    intro i hi
    exact br_f (nI_ge (b := 32) (by omega) (by decide)) ⟨rg_i32 hs ⟨i, by omega, rfl⟩, nm_e (nm_r (nI_1 i) (ih (i + 1) (by omega)))⟩
theorem xl_clearWords (hs : rg_B 8 s) (hp : ps (sl, wl, dl, st, fa, ri, si, so, ac, P, Q, fc, cx, L, F, R1, R2, R3, GC, GO, rg_cl W (s * 32) 32, H, SC, FR)) : wpX_clearWords ps (sl, wl, dl, st, fa, ri, si, so, ac, P, Q, fc, cx, L, F, R1, R2, R3, GC, GO, W, H, SC, FR) s :=
  nm_e ⟨33, xl_clearLoop (W0 := W) hs hp 32 0 rfl⟩
theorem xl_emptyLoop {H0 : Nat → Int32} (hp : ps (sl, wl, dl, st, fa, ri, si, so, ac, P, Q, fc, cx, L, F, R1, R2, R3, GC, GO, W, rg_z H0 8, SC, FR)) : ∀ d i : Nat, i + d = 8 → wX_emptyStacks_2 ps sl wl dl st fa ri si so ac P Q fc cx (d + 1) (nI i) L F R1 R2 R3 GC GO W (rg_z H0 i) SC FR := by
  intro d
  induction d with
  | zero =>
    intro i hi
    have e : i = 8 := by omega
    subst e
    exact br_t (by decide) hp
  | succ d ih =>
    intro i hi
    exact br_f (nI_ge (b := 8) (by omega) (by decide)) ⟨vp_in_nI (by omega) (by decide), nm_e (nm_r (nI_1 i) (ih (i + 1) (by omega)))⟩
theorem xl_emptyStacks (hp : ps (sl, wl, dl, st, fa, ri, si, so, ac, P, Q, fc, cx, L, F, R1, R2, R3, GC, GO, W, rg_z H 8, SC, FR)) : wpX_emptyStacks ps (sl, wl, dl, st, fa, ri, si, so, ac, P, Q, fc, cx, L, F, R1, R2, R3, GC, GO, W, H, SC, FR) :=
  ⟨9, xl_emptyLoop (H0 := H) hp 8 0 rfl⟩
theorem xl_isRing (ht : ¬ s < 0 → ¬ 7 < s → p 1) (hf : ¬ (¬ s < 0 ∧ ¬ 7 < s) → p 0) : wpX_isRing p () s :=
  br_c (fun h => hf fun z => z.1 h) (fun h0 => br_c (fun h => hf fun z => z.2 h) (fun h1 => ht h0 h1))
end
