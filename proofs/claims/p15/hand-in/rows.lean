section
def bt (x : Int32) (i : Nat) : Bool := x.toBitVec.getLsbD i
theorem b_ext {x y : Int32} (h : ∀ i, i < 32 → bt x i = bt y i) : x = y := Int32.toBitVec_inj.mp (BitVec.eq_of_getLsbD_eq (fun i hi => h i hi))
theorem b_or (x y : Int32) (i : Nat) : bt (x ||| y) i = (bt x i || bt y i) := by unfold bt; rw [Int32.toBitVec_or, BitVec.getLsbD_or]
theorem b_and (x y : Int32) (i : Nat) : bt (x &&& y) i = (bt x i && bt y i) := by unfold bt; rw [Int32.toBitVec_and, BitVec.getLsbD_and]
theorem rg_orN (a b : Nat) : nI a ||| nI b = nI (a ||| b) := by
  apply Int32.toBitVec_inj.1
  show BitVec.ofNat 32 a ||| BitVec.ofNat 32 b = BitVec.ofNat 32 (a ||| b)
  apply BitVec.eq_of_getLsbD_eq
  intro i hi
  simp [hi]
/-- a pointer as the class packs it -/
def rg_pk (a b c : Nat) : Int32 := nI (a * 65536 + b * 256 + c)
theorem rg_pack {a b c : Nat} (ha : a < 256) (hb : b < 256) (hc : c < 256) : nI a <<< ((16 : Int32) &&& 31) ||| nI b <<< ((8 : Int32) &&& 31) ||| nI c = rg_pk a b c := by
  rw [pk_shlN (n := a) _ 16 (by decide) (by omega), pk_shlN (n := b) _ 8 (by decide) (by omega), rg_orN, rg_orN]
  have h1 : a * 2 ^ 16 ||| b * 2 ^ 8 = 2 ^ 8 * (a * 256 + b) := by
    have h := Nat.two_pow_add_eq_or_of_lt (i := 16) (b := b * 2 ^ 8) (by omega) a
    rw [Nat.mul_comm a, ← h]
    omega
  have h2 := Nat.two_pow_add_eq_or_of_lt (i := 8) (b := c) (by omega) (a * 256 + b)
  rw [h1, ← h2]
  exact congrArg nI (by omega)
theorem rg_pSeg {a b c : Nat} (ha : a < 256) (hb : b < 256) (hc : c < 256) : rg_pk a b c >>> ((16 : Int32) &&& 31) &&& 255 = nI a := by
  unfold rg_pk
  rw [pk_shrN (by omega) _ 16 (by decide), pk_andN (by omega) 8 (by decide)]
  exact congrArg nI (by omega)
theorem rg_pOff {a b c : Nat} (ha : a < 256) (hb : b < 256) (hc : c < 256) : rg_pk a b c >>> ((8 : Int32) &&& 31) &&& 255 = nI b := by
  unfold rg_pk
  rw [pk_shrN (by omega) _ 8 (by decide), pk_andN (by omega) 8 (by decide)]
  exact congrArg nI (by omega)
theorem rg_pRing {a b c : Nat} (ha : a < 256) (hb : b < 256) (hc : c < 8) : rg_pk a b c &&& 7 = nI c := by
  unfold rg_pk
  rw [pk_andN (by omega) 3 (by decide)]
  exact congrArg nI (by omega)
theorem rg_uSeg {a b c : Nat} (ha : a < 256) (hb : b < 256) (hc : c < 256) : ((rg_pk a b c).toUInt32 >>> ((16 : Int32).toUInt32 &&& Int32.toUInt32 31)).toInt32 &&& 255 = nI a := by
  unfold rg_pk
  rw [pk_ushrN (by omega) _ 16 (by decide), pk_andN (by omega) 8 (by decide)]
  exact congrArg nI (by omega)
theorem rg_uOff {a b c : Nat} (ha : a < 256) (hb : b < 256) (hc : c < 256) : ((rg_pk a b c).toUInt32 >>> ((8 : Int32).toUInt32 &&& Int32.toUInt32 31)).toInt32 &&& 255 = nI b := by
  unfold rg_pk
  rw [pk_ushrN (by omega) _ 8 (by decide), pk_andN (by omega) 8 (by decide)]
  exact congrArg nI (by omega)
theorem rg_uRing {a b c : Nat} (ha : a < 256) (hb : b < 256) (hc : c < 256) : rg_pk a b c &&& 255 = nI c := by
  unfold rg_pk
  rw [pk_andN (by omega) 8 (by decide)]
  exact congrArg nI (by omega)
theorem rg_m8 : ∀ i, i < 32 → bt (-8) i = decide (3 ≤ i) := by decide +kernel
theorem rg_bt {n i : Nat} (hi : i < 32) : bt (nI n) i = n.testBit i := by
  show (BitVec.ofNat 32 n).getLsbD i = _
  rw [BitVec.getLsbD_ofNat]
  simp [hi]
theorem rg_raise {a b c l : Nat} (hc : c < 8) (hl : l < 8) : (rg_pk a b c &&& (-8)) ||| nI l = rg_pk a b l := by
  have e : ∀ x : Nat, a * 65536 + b * 256 + x = 2 ^ 3 * (a * 8192 + b * 32) + x := fun x => by omega
  unfold rg_pk
  rw [e c, e l]
  refine b_ext fun i hi => ?_
  rw [b_or, b_and, rg_bt hi, rg_bt hi, rg_bt hi, rg_m8 i hi, Nat.testBit_two_pow_mul_add _ (by omega), Nat.testBit_two_pow_mul_add _ (by omega)]
  by_cases h : i < 3
  · rw [if_pos h, if_pos h, decide_eq_false (by omega), Bool.and_false, Bool.false_or]
  · have hz : l.testBit i = false := by
      apply Nat.testBit_lt_two_pow
      exact Nat.lt_of_lt_of_le hl (Nat.pow_le_pow_right (n := 2) (i := 3) (j := i) (by decide) (by omega))
    rw [if_neg h, if_neg h, decide_eq_true (by omega), Bool.and_true, hz, Bool.or_false]
theorem rg_ic {s o : Nat} : nI s * 256 + nI o = nI (s * 256 + o) := by
  rw [show (256 : Int32) = nI 256 from rfl, pk_mul, nI_add]
theorem rg_icD {s o : Nat} (hs : s < 256) (ho : o < 256) : nI (s * 256 + o) / 256 = nI s := by
  rw [show (256 : Int32) = nI 256 from rfl, pk_div (by omega) (by omega) (by omega)]
  exact congrArg nI (by omega)
theorem rg_icR {s o : Nat} (hs : s < 256) (ho : o < 256) : nI (s * 256 + o) - nI (s * 256 + o) / 256 * 256 = nI o := by
  rw [show (256 : Int32) = nI 256 from rfl, pk_rem (by omega) (by omega) (by omega)]
  exact congrArg nI (by omega)
theorem rg_x32 {s o : Nat} : nI s * 32 + nI o = nI (s * 32 + o) := by
  rw [show (32 : Int32) = nI 32 from rfl, pk_mul, nI_add]
theorem rg_x16 {s o : Nat} : nI s * 16 + nI o = nI (s * 16 + o) := by
  rw [show (16 : Int32) = nI 16 from rfl, pk_mul, nI_add]
theorem rg_x6 {s o : Nat} : nI s * 6 + nI o = nI (s * 6 + o) := by
  rw [show (6 : Int32) = nI 6 from rfl, pk_mul, nI_add]
theorem rg_x4 {s o : Nat} : nI s * 4 + nI o = nI (s * 4 + o) := by
  rw [show (4 : Int32) = nI 4 from rfl, pk_mul, nI_add]
theorem rg_in32 {s o : Nat} (hs : s < 8) (ho : o < 32) : vp_in (nI s * 32 + nI o) 256 := by
  rw [rg_x32]; exact vp_in_nI (by omega) (by omega)
theorem rg_in16 {s o : Nat} (hs : s < 8) (ho : o < 16) : vp_in (nI s * 16 + nI o) 128 := by
  rw [rg_x16]; exact vp_in_nI (by omega) (by omega)
theorem rg_in6 {s o : Nat} (hs : s < 16) (ho : o < 6) : vp_in (nI s * 6 + nI o) 96 := by
  rw [rg_x6]; exact vp_in_nI (by omega) (by omega)
theorem rg_in4 {s o : Nat} (hs : s < 8) (ho : o < 4) : vp_in (nI s * 4 + nI o) 32 := by
  rw [rg_x4]; exact vp_in_nI (by omega) (by omega)
theorem rg_c6 {s o : Nat} (hs : s < 16) (ho : o < 6) : (nI s * 6 + nI o).toNatClampNeg = s * 6 + o := by
  rw [rg_x6]; exact nI_clamp (by omega)
theorem rg_ucomm {f : Nat → Int32} {i j : Nat} {x y : Int32} (h : i ≠ j) : upd (upd f i x) j y = upd (upd f j y) i x := by
  funext z
  unfold upd
  by_cases h1 : z = i
  · by_cases h2 : z = j
    · exact absurd (h1.symm.trans h2) h
    · simp [h1, h]
  · by_cases h2 : z = j
    · simp [h2, Ne.symm h]
    · simp [h1, h2]
/-- the value of a branch -/
theorem rg_if {c : Prop} {A B : Prop} (h : (c ∧ A) ∨ (¬ c ∧ B)) : (c → A) ∧ (¬ c → B) :=
  h.elim (fun z => br_t z.1 z.2) (fun z => br_f z.1 z.2)
/-- x is a natural number below n -/
def rg_B (n : Nat) (x : Int32) : Prop := ∃ j : Nat, j < n ∧ x = nI j
theorem rg_B0 {n : Nat} (h : 0 < n) : rg_B n 0 := ⟨0, h, rfl⟩
theorem rg_Bm {n m : Nat} {x : Int32} (h : rg_B n x) (hm : n ≤ m) : rg_B m x := by
  obtain ⟨j, hj, e⟩ := h
  exact ⟨j, by omega, e⟩
theorem rg_Bn {n : Nat} {x : Int32} (h : rg_B n x) (hn : n < 2 ^ 30) : ¬ x < 0 := by
  obtain ⟨j, hj, rfl⟩ := h
  exact nI_pos (by omega)
theorem rg_Bin {n : Nat} {x : Int32} (h : rg_B n x) (hn : n < 2 ^ 30) : vp_in x n := by
  obtain ⟨j, hj, rfl⟩ := h
  exact vp_in_nI hj (by omega)
/-- from the tests 0 ≤ x and x < y with y bounded -/
theorem rg_Bl {n : Nat} {x y : Int32} (hy : rg_B (n + 1) y) (hn : n < 2 ^ 30) (h0 : ¬ x < 0) (h : x < y) : rg_B n x := by
  obtain ⟨j, hj, rfl⟩ := nI_of h0
  obtain ⟨l, hl, rfl⟩ := hy
  rw [nI_ltI hj (by omega)] at h
  exact ⟨j, by omega, rfl⟩
theorem rg_Ble {n : Nat} {x y : Int32} (hy : rg_B n y) (hn : n < 2 ^ 30) (h0 : ¬ x < 0) (h : x ≤ y) : rg_B n x := by
  obtain ⟨j, hj, rfl⟩ := nI_of h0
  obtain ⟨l, hl, rfl⟩ := hy
  rw [nI_leI hj (by omega)] at h
  exact ⟨j, by omega, rfl⟩
theorem rg_Bs {n : Nat} {x : Int32} (h : rg_B n x) : rg_B (n + 1) (x + 1) := by
  obtain ⟨j, hj, rfl⟩ := h
  exact ⟨j + 1, by omega, nI_1 j⟩
theorem rg_B255 (x : Int32) : rg_B 256 (x &&& 255) := pk_andE x 8 (by decide)
theorem rg_B15 (x : Int32) : rg_B 16 (x &&& 15) := pk_andE x 4 (by decide)
theorem rg_nl {x y : Int32} : ¬ x < y ↔ y ≤ x := Int32.not_lt
theorem rg_nle {x y : Int32} : ¬ x ≤ y ↔ y < x := Int32.not_le
/-- a pointer as both sides show it -/
def rg_P (a b c : Int32) : Int32 := a <<< ((16 : Int32) &&& 31) ||| b <<< ((8 : Int32) &&& 31) ||| c
theorem rg_Pk {a b c : Nat} (ha : a < 256) (hb : b < 256) (hc : c < 256) : rg_P (nI a) (nI b) (nI c) = rg_pk a b c := rg_pack ha hb hc
theorem rg_PS {a b c : Int32} (ha : rg_B 256 a) (hb : rg_B 256 b) (hc : rg_B 8 c) : rg_P a b c >>> ((16 : Int32) &&& 31) &&& 255 = a := by
  obtain ⟨a, ha, rfl⟩ := ha
  obtain ⟨b, hb, rfl⟩ := hb
  obtain ⟨c, hc, rfl⟩ := hc
  rw [rg_Pk ha hb (by omega)]
  exact rg_pSeg ha hb (by omega)
theorem rg_PO {a b c : Int32} (ha : rg_B 256 a) (hb : rg_B 256 b) (hc : rg_B 8 c) : rg_P a b c >>> ((8 : Int32) &&& 31) &&& 255 = b := by
  obtain ⟨a, ha, rfl⟩ := ha
  obtain ⟨b, hb, rfl⟩ := hb
  obtain ⟨c, hc, rfl⟩ := hc
  rw [rg_Pk ha hb (by omega)]
  exact rg_pOff ha hb (by omega)
theorem rg_PR {a b c : Int32} (ha : rg_B 256 a) (hb : rg_B 256 b) (hc : rg_B 8 c) : rg_P a b c &&& 7 = c := by
  obtain ⟨a, ha, rfl⟩ := ha
  obtain ⟨b, hb, rfl⟩ := hb
  obtain ⟨c, hc, rfl⟩ := hc
  rw [rg_Pk ha hb (by omega)]
  exact rg_pRing ha hb hc
theorem rg_US {a b c : Int32} (ha : rg_B 256 a) (hb : rg_B 256 b) (hc : rg_B 8 c) : ((rg_P a b c).toUInt32 >>> ((16 : Int32).toUInt32 &&& Int32.toUInt32 31)).toInt32 &&& 255 = a := by
  obtain ⟨a, ha, rfl⟩ := ha
  obtain ⟨b, hb, rfl⟩ := hb
  obtain ⟨c, hc, rfl⟩ := hc
  rw [rg_Pk ha hb (by omega)]
  exact rg_uSeg ha hb (by omega)
theorem rg_UO {a b c : Int32} (ha : rg_B 256 a) (hb : rg_B 256 b) (hc : rg_B 8 c) : ((rg_P a b c).toUInt32 >>> ((8 : Int32).toUInt32 &&& Int32.toUInt32 31)).toInt32 &&& 255 = b := by
  obtain ⟨a, ha, rfl⟩ := ha
  obtain ⟨b, hb, rfl⟩ := hb
  obtain ⟨c, hc, rfl⟩ := hc
  rw [rg_Pk ha hb (by omega)]
  exact rg_uOff ha hb (by omega)
theorem rg_UR {a b c : Int32} (ha : rg_B 256 a) (hb : rg_B 256 b) (hc : rg_B 8 c) : rg_P a b c &&& 255 = c := by
  obtain ⟨a, ha, rfl⟩ := ha
  obtain ⟨b, hb, rfl⟩ := hb
  obtain ⟨c, hc, rfl⟩ := hc
  rw [rg_Pk ha hb (by omega)]
  exact rg_uRing ha hb (by omega)
theorem rg_PL {a b c l : Int32} (ha : rg_B 256 a) (hb : rg_B 256 b) (hc : rg_B 8 c) (hl : rg_B 8 l) : (rg_P a b c &&& (-8)) ||| l = rg_P a b l := by
  obtain ⟨a, ha, rfl⟩ := ha
  obtain ⟨b, hb, rfl⟩ := hb
  obtain ⟨c, hc, rfl⟩ := hc
  obtain ⟨l, hl, rfl⟩ := hl
  rw [rg_Pk ha hb (by omega), rg_Pk ha hb (by omega)]
  exact rg_raise hc hl
theorem rg_i32 {s o : Int32} (hs : rg_B 8 s) (ho : rg_B 32 o) : vp_in (s * 32 + o) 256 := by
  obtain ⟨s, hs, rfl⟩ := hs
  obtain ⟨o, ho, rfl⟩ := ho
  exact rg_in32 hs ho
theorem rg_i16 {s o : Int32} (hs : rg_B 8 s) (ho : rg_B 16 o) : vp_in (s * 16 + o) 128 := by
  obtain ⟨s, hs, rfl⟩ := hs
  obtain ⟨o, ho, rfl⟩ := ho
  exact rg_in16 hs ho
theorem rg_i6 {s o : Int32} (hs : rg_B 16 s) (ho : rg_B 6 o) : vp_in (s * 6 + o) 96 := by
  obtain ⟨s, hs, rfl⟩ := hs
  obtain ⟨o, ho, rfl⟩ := ho
  exact rg_in6 hs ho
theorem rg_i4 {s o : Int32} (hs : rg_B 8 s) (ho : rg_B 4 o) : vp_in (s * 4 + o) 32 := by
  obtain ⟨s, hs, rfl⟩ := hs
  obtain ⟨o, ho, rfl⟩ := ho
  exact rg_in4 hs ho
theorem rg_rD {s o : Int32} (hs : rg_B 8 s) (ho : rg_B 256 o) : (s * 256 + o) / 256 = s := by
  obtain ⟨s, hs, rfl⟩ := hs
  obtain ⟨o, ho, rfl⟩ := ho
  rw [rg_ic]
  exact rg_icD (by omega) ho
theorem rg_rR {s o : Int32} (hs : rg_B 8 s) (ho : rg_B 256 o) : (s * 256 + o) - (s * 256 + o) / 256 * 256 = o := by
  obtain ⟨s, hs, rfl⟩ := hs
  obtain ⟨o, ho, rfl⟩ := ho
  rw [rg_ic]
  exact rg_icR (by omega) ho
/-- all cells of an array -/
theorem rg_au {p : Int32 → Prop} {f : Nat → Int32} {k : Nat} {x : Int32} (h : ∀ s, p (f s)) (hx : p x) : ∀ s, p (upd f k x s) := by
  intro s
  unfold upd
  by_cases e : s = k
  · rw [if_pos e]; exact hx
  · rw [if_neg e]; exact h s
/-- n cells from b on set to 0 -/
def rg_cl (f : Nat → Int32) (b : Int32) : Nat → Nat → Int32
  | 0 => f
  | n + 1 => upd (rg_cl f b n) (b + nI n).toNatClampNeg 0
theorem rg_cla {p : Int32 → Prop} {f : Nat → Int32} (b : Int32) (h : ∀ s, p (f s)) (h0 : p 0) : ∀ n s, p (rg_cl f b n s) := by
  intro n
  induction n with
  | zero => exact h
  | succ n ih => exact rg_au ih h0
/-- the first n cells set to 0 -/
def rg_z (f : Nat → Int32) : Nat → Nat → Int32
  | 0 => f
  | n + 1 => upd (rg_z f n) (nI n).toNatClampNeg 0
theorem rg_za {p : Int32 → Prop} {f : Nat → Int32} (h : ∀ s, p (f s)) (h0 : p 0) : ∀ n s, p (rg_z f n s) := by
  intro n
  induction n with
  | zero => exact h
  | succ n ih => exact rg_au ih h0
end
section
/-! the conditions that both sides test -/
def rg_D (sl : Int32) (L : Nat → Int32) (s : Int32) : Prop := ¬ s < 0 ∧ ¬ sl ≤ s ∧ ¬ L s.toNatClampNeg ≤ 0
def rg_W (sl : Int32) (L : Nat → Int32) (s o : Int32) : Prop := rg_D sl L s ∧ ¬ o < 0 ∧ ¬ L s.toNatClampNeg ≤ o
def rg_MR (F R2 : Nat → Int32) (s e : Int32) : Prop := ¬ F s.toNatClampNeg &&& 1 = 0 ∧ ¬ R2 s.toNatClampNeg < e
def rg_MW (F R1 : Nat → Int32) (s e : Int32) : Prop := ¬ F s.toNatClampNeg &&& 2 = 0 ∧ ¬ R1 s.toNatClampNeg < e
def rg_MX (F R1 R2 : Nat → Int32) (s e : Int32) : Prop := ¬ F s.toNatClampNeg &&& 4 = 0 ∧ ¬ e < R1 s.toNatClampNeg ∧ ¬ R2 s.toNatClampNeg < e
def rg_MC (F R3 : Nat → Int32) (s e : Int32) : Prop := ¬ F s.toNatClampNeg &&& 4 = 0 ∧ ¬ R3 s.toNatClampNeg < e
def rg_G (GC GO : Nat → Int32) (s o : Int32) : Prop := ∃ i : Nat, i < 4 ∧ ¬ GC s.toNatClampNeg ≤ nI i ∧ GO (s * 4 + nI i).toNatClampNeg = o
/-! what holds of the states -/
def rg_Seg (L R1 R2 GC : Nat → Int32) : Prop := ∀ s, rg_B 33 (L s) ∧ rg_B 8 (R1 s) ∧ rg_B 8 (R2 s) ∧ R1 s ≤ R2 s ∧ rg_B 5 (GC s)
def rg_Dd (D L : Nat → Int32) : Prop := ∀ s, D s = 0 ↔ L s ≤ 0
def rg_Hs (H : Nat → Int32) : Prop := ∀ r, rg_B 17 (H r)
def rg_Pt (x : Int32) : Prop := ∃ a b c, rg_B 256 a ∧ rg_B 256 b ∧ rg_B 8 c ∧ x = rg_P a b c
def rg_F6 (FR : Nat → Int32) (b : Nat) : Prop := (∃ s o, rg_B 8 s ∧ rg_B 256 o ∧ FR b = s * 256 + o) ∧ rg_B 8 (FR (b + 1)) ∧ rg_B 17 (FR (b + 2)) ∧ rg_Pt (FR (b + 3)) ∧ rg_Pt (FR (b + 4))
def rg_Fs (fc : Int32) (FR : Nat → Int32) : Prop := ∃ n : Nat, n < 17 ∧ fc = nI n ∧ ∀ f, f < n → rg_F6 FR (f * 6)
theorem rg_D8 {sl s : Int32} (c1 : rg_B 9 sl) (h0 : ¬ s < 0) (h1 : ¬ sl ≤ s) : rg_B 8 s := rg_Bl (n := 8) c1 (by decide) h0 (rg_nle.mp h1)
theorem rg_Dv {sl s : Int32} (c1 : rg_B 9 sl) (h0 : ¬ s < 0) (h1 : ¬ sl ≤ s) : vp_in s 8 := rg_Bin (rg_D8 c1 h0 h1) (by decide)
theorem rg_D8' {sl s : Int32} {L : Nat → Int32} (c1 : rg_B 9 sl) (h : rg_D sl L s) : rg_B 8 s := rg_D8 c1 h.1 h.2.1
theorem rg_DI {sl s : Int32} {L : Nat → Int32} (c1 : rg_B 9 sl) (h : rg_D sl L s) : vp_in s 8 := rg_Dv c1 h.1 h.2.1
theorem rg_O32 {L R1 R2 GC : Nat → Int32} {o : Int32} (hS : rg_Seg L R1 R2 GC) (k : Nat) (h0 : ¬ o < 0) (h : ¬ L k ≤ o) : rg_B 32 o := rg_Bl (n := 32) (hS k).1 (by decide) h0 (rg_nle.mp h)
theorem rg_WI {sl s o : Int32} {L R1 R2 GC : Nat → Int32} (c1 : rg_B 9 sl) (hS : rg_Seg L R1 R2 GC) (h : rg_W sl L s o) : vp_in (s * 32 + o) 256 := rg_i32 (rg_D8' c1 h.1) (rg_O32 hS _ h.2.1 h.2.2)
/-- the greater of two, as the reference writes it -/
noncomputable def rg_mx (a b : Int32) : Int32 := if a ≤ b then b else a
theorem rg_1 : ¬ (1 : Int32) = 0 := by decide
theorem rg_2 : ¬ (2 : Int32) = 0 := by decide
theorem rg_3 : ¬ (3 : Int32) = 0 := by decide
section
variable {sl wl dl st fa ri si so ac P Q fc cx : Int32} {L F R1 R2 R3 GC GO W H SC FR : Nat → Int32}
variable {p : Int32 → Prop} {ps : St2 → Prop} {pq : Int32 → St2 → Prop} {s o e k : Int32}
theorem xl_isDefined (c1 : rg_B 9 sl) (ht : rg_D sl L s → p 1) (hf : ¬ rg_D sl L s → p 0) : wpX_isDefined p (sl, wl, dl, st, fa, ri, si, so, ac, P, Q, fc, cx, L, F, R1, R2, R3, GC, GO, W, H, SC, FR) s :=
  br_c (fun h => hf fun z => z.1 h) (fun h0 => br_c (fun h => hf fun z => z.2.1 h) (fun h1 => ⟨rg_Dv c1 h0 h1, br_c (fun h => hf fun z => z.2.2 h) (fun h2 => ht ⟨h0, h1, h2⟩)⟩))
theorem xl_isWord (c1 : rg_B 9 sl) (ht : rg_W sl L s o → p 1) (hf : ¬ rg_W sl L s o → p 0) : wpX_isWord p (sl, wl, dl, st, fa, ri, si, so, ac, P, Q, fc, cx, L, F, R1, R2, R3, GC, GO, W, H, SC, FR) s o := by
  unfold wpX_isWord
  exact xl_isDefined c1 (fun hd => br_f rg_1 (br_c (fun h => hf fun z => z.2.1 h) (fun h0 => ⟨rg_DI c1 hd, br_c (fun h => hf fun z => z.2.2 h) (fun h2 => ht ⟨hd, h0, h2⟩)⟩))) (fun hd => br_t rfl (hf fun z => hd z.1))
theorem xl_hasFlag (hv : vp_in s 8) (ht : ¬ F s.toNatClampNeg &&& k = 0 → p 1) (hf : F s.toNatClampNeg &&& k = 0 → p 0) : wpX_hasFlag p (sl, wl, dl, st, fa, ri, si, so, ac, P, Q, fc, cx, L, F, R1, R2, R3, GC, GO, W, H, SC, FR) s k :=
  And.intro hv (br_c hf ht)
theorem xl_mayRead (hv : vp_in s 8) (ht : rg_MR F R2 s e → p 1) (hf : ¬ rg_MR F R2 s e → p 0) : wpX_mayRead p (sl, wl, dl, st, fa, ri, si, so, ac, P, Q, fc, cx, L, F, R1, R2, R3, GC, GO, W, H, SC, FR) s e := by
  unfold wpX_mayRead
  exact xl_hasFlag hv (fun h => br_f rg_1 ⟨hv, br_c (fun h1 => hf fun z => z.2 h1) (fun h1 => ht ⟨h, h1⟩)⟩) (fun h => br_t rfl (hf fun z => z.1 h))
theorem xl_mayWrite (hv : vp_in s 8) (ht : rg_MW F R1 s e → p 1) (hf : ¬ rg_MW F R1 s e → p 0) : wpX_mayWrite p (sl, wl, dl, st, fa, ri, si, so, ac, P, Q, fc, cx, L, F, R1, R2, R3, GC, GO, W, H, SC, FR) s e := by
  unfold wpX_mayWrite
  exact xl_hasFlag hv (fun h => br_f rg_1 ⟨hv, br_c (fun h1 => hf fun z => z.2 h1) (fun h1 => ht ⟨h, h1⟩)⟩) (fun h => br_t rfl (hf fun z => z.1 h))
theorem xl_isCallable (hv : vp_in s 8) (ht : rg_MC F R3 s e → p 1) (hf : ¬ rg_MC F R3 s e → p 0) : wpX_isCallable p (sl, wl, dl, st, fa, ri, si, so, ac, P, Q, fc, cx, L, F, R1, R2, R3, GC, GO, W, H, SC, FR) s e := by
  unfold wpX_isCallable
  exact xl_hasFlag hv (fun h => br_f rg_1 ⟨hv, br_c (fun h1 => hf fun z => z.2 h1) (fun h1 => ht ⟨h, h1⟩)⟩) (fun h => br_t rfl (hf fun z => z.1 h))
theorem xl_mayExecute (hv : vp_in s 8) (ht : rg_MX F R1 R2 s e → p 1) (hf : ¬ rg_MX F R1 R2 s e → p 0) : wpX_mayExecute p (sl, wl, dl, st, fa, ri, si, so, ac, P, Q, fc, cx, L, F, R1, R2, R3, GC, GO, W, H, SC, FR) s e := by
  unfold wpX_mayExecute
  exact xl_hasFlag hv (fun h => br_f rg_1 ⟨hv, br_c (fun h1 => hf fun z => z.2.1 h1) (fun h1 => ⟨hv, br_c (fun h2 => hf fun z => z.2.2 h2) (fun h2 => ht ⟨h, h1, h2⟩)⟩)⟩) (fun h => br_t rfl (hf fun z => z.1 h))
theorem xl_gateLoop {c : Nat} (hs : rg_B 8 s) (hc : c < 5) (hC : GC s.toNatClampNeg = nI c) (ht : rg_G GC GO s o → p 1) (hf : ¬ rg_G GC GO s o → p 0) : ∀ d i : Nat, i + d = c → (∀ j, j < i → ¬ GO (s * 4 + nI j).toNatClampNeg = o) → wX_isGate_15 p o (s * 4) (nI c) sl wl dl st fa ri si so ac P Q fc cx L F R1 R2 R3 GC GO W H SC FR (d + 1) (nI i) := by
  intro d
  induction d with
  | zero =>
    intro i hi hn
    refine br_t (nI_le (by omega) (by omega)) (hf ?_)
    rintro ⟨j, hj, h1, h2⟩
    rw [hC, nI_leI (by omega) (by omega)] at h1
    exact hn j (by omega) h2
  | succ d ih =>
    intro i hi hn
    refine br_f (nI_ge (by omega) (by omega)) ⟨rg_i4 hs ⟨i, by omega, rfl⟩, br_c (fun h => ht ⟨i, by omega, ?_, h⟩) (fun h => nm_r (nI_1 i) (ih (i + 1) (by omega) ?_))⟩
    · rw [hC]
      exact nI_ge (by omega) (by omega)
    · intro j hj
      by_cases e : j = i
      · rw [e]; exact h
      · exact hn j (by omega)
theorem xl_isGate (hs : rg_B 8 s) (hc : rg_B 5 (GC s.toNatClampNeg)) (ht : rg_G GC GO s o → p 1) (hf : ¬ rg_G GC GO s o → p 0) : wpX_isGate p (sl, wl, dl, st, fa, ri, si, so, ac, P, Q, fc, cx, L, F, R1, R2, R3, GC, GO, W, H, SC, FR) s o := by
  obtain ⟨c, hc, hC⟩ := hc
  exact nm_e ⟨rg_Bin hs (by decide), nm_r hC ⟨c + 1, xl_gateLoop hs hc hC ht hf c 0 (by omega) (fun j hj => absurd hj (Nat.not_lt_zero j))⟩⟩
theorem xl_placeFault (c1 : rg_B 9 sl) (h1 : ¬ rg_D sl L s → p 1) (h2 : rg_D sl L s → L s.toNatClampNeg ≤ o → p 2) (h3 : rg_D sl L s → ¬ L s.toNatClampNeg ≤ o → p 0) : wpX_placeFault p (sl, wl, dl, st, fa, ri, si, so, ac, P, Q, fc, cx, L, F, R1, R2, R3, GC, GO, W, H, SC, FR) s o := by
  unfold wpX_placeFault
  exact xl_isDefined c1 (fun hd => br_f rg_1 ⟨rg_DI c1 hd, br_c (h2 hd) (h3 hd)⟩) (fun hd => br_t rfl (h1 hd))
theorem xl_fetchFault (c1 : rg_B 9 sl) (h1 : ¬ rg_D sl L si → p 1) (h2 : rg_D sl L si → L si.toNatClampNeg ≤ so → p 2) (h3 : rg_D sl L si → ¬ L si.toNatClampNeg ≤ so → ¬ rg_MX F R1 R2 si ri → p 3) (h4 : rg_D sl L si → ¬ L si.toNatClampNeg ≤ so → rg_MX F R1 R2 si ri → p 0) : wpX_fetchFault p (sl, wl, dl, st, fa, ri, si, so, ac, P, Q, fc, cx, L, F, R1, R2, R3, GC, GO, W, H, SC, FR) := by
  unfold wpX_fetchFault
  exact xl_placeFault c1 (fun hd => br_f rg_1 (h1 hd)) (fun hd h => br_f rg_2 (h2 hd h)) (fun hd h => br_t rfl (xl_mayExecute (rg_DI c1 hd) (fun hx => br_f rg_1 (h4 hd h hx)) (fun hx => br_t rfl (h3 hd h hx))))
theorem xl_clamp {a b c : Int32} (h : p (if b ≤ a then (if a ≤ c then a else c) else b)) : wpX_clamp p () a b c := by
  by_cases h1 : b ≤ a
  · by_cases h2 : a ≤ c
    · rw [if_pos h1, if_pos h2] at h; exact br_t h1 (br_t h2 h)
    · rw [if_pos h1, if_neg h2] at h; exact br_t h1 (br_f h2 h)
  · rw [if_neg h1] at h; exact br_f h1 h
theorem xl_clearLoop {W0 : Nat → Int32} (hs : rg_B 8 s) (hp : ps (sl, wl, dl, st, fa, ri, si, so, ac, P, Q, fc, cx, L, F, R1, R2, R3, GC, GO, rg_cl W0 (s * 32) 32, H, SC, FR)) : ∀ d i : Nat, i + d = 32 → wX_clearWords_7 ps (s * 32) sl wl dl st fa ri si so ac P Q fc cx (d + 1) (nI i) L F R1 R2 R3 GC GO (rg_cl W0 (s * 32) i) H SC FR := by
  intro d
  induction d with
  | zero =>
    intro i hi
    have e : i = 32 := by omega
    subst e
    exact br_t (by decide) hp
  | succ d ih =>
    intro i hi
    exact br_f (nI_ge (b := 32) (by omega) (by decide)) ⟨rg_i32 hs ⟨i, by omega, rfl⟩, nm_e (nm_r (nI_1 i) (ih (i + 1) (by omega)))⟩
theorem xl_clearWords (hs : rg_B 8 s) (hp : ps (sl, wl, dl, st, fa, ri, si, so, ac, P, Q, fc, cx, L, F, R1, R2, R3, GC, GO, rg_cl W (s * 32) 32, H, SC, FR)) : wpX_clearWords ps (sl, wl, dl, st, fa, ri, si, so, ac, P, Q, fc, cx, L, F, R1, R2, R3, GC, GO, W, H, SC, FR) s :=
  nm_e ⟨33, xl_clearLoop (W0 := W) hs hp 32 0 rfl⟩
theorem xl_emptyLoop {H0 : Nat → Int32} (hp : ps (sl, wl, dl, st, fa, ri, si, so, ac, P, Q, fc, cx, L, F, R1, R2, R3, GC, GO, W, rg_z H0 8, SC, FR)) : ∀ d i : Nat, i + d = 8 → wX_emptyStacks_2 ps sl wl dl st fa ri si so ac P Q fc cx (d + 1) (nI i) L F R1 R2 R3 GC GO W (rg_z H0 i) SC FR := by
  intro d
  induction d with
  | zero =>
    intro i hi
    have e : i = 8 := by omega
    subst e
    exact br_t (by decide) hp
  | succ d ih =>
    intro i hi
    exact br_f (nI_ge (b := 8) (by omega) (by decide)) ⟨vp_in_nI (by omega) (by decide), nm_e (nm_r (nI_1 i) (ih (i + 1) (by omega)))⟩
theorem xl_emptyStacks (hp : ps (sl, wl, dl, st, fa, ri, si, so, ac, P, Q, fc, cx, L, F, R1, R2, R3, GC, GO, W, rg_z H 8, SC, FR)) : wpX_emptyStacks ps (sl, wl, dl, st, fa, ri, si, so, ac, P, Q, fc, cx, L, F, R1, R2, R3, GC, GO, W, H, SC, FR) :=
  ⟨9, xl_emptyLoop (H0 := H) hp 8 0 rfl⟩
theorem xl_isRing (ht : ¬ s < 0 → ¬ 7 < s → p 1) (hf : ¬ (¬ s < 0 ∧ ¬ 7 < s) → p 0) : wpX_isRing p () s :=
  br_c (fun h => hf fun z => z.1 h) (fun h0 => br_c (fun h => hf fun z => z.2 h) (fun h1 => ht h0 h1))
end
end
section
noncomputable def rg_fl (fc : Int32) (FR : Nat → Int32) : Int32 := if fc = 0 then 0 else FR ((fc - 1) * 6 + 2).toNatClampNeg
noncomputable def rg_en (R1 R2 : Nat → Int32) (ri s : Int32) : Int32 := if R1 s.toNatClampNeg ≤ ri then (if ri ≤ R2 s.toNatClampNeg then ri else R2 s.toNatClampNeg) else R1 s.toNatClampNeg
theorem rg_en8 {L R1 R2 GC : Nat → Int32} {ri s : Int32} (hS : rg_Seg L R1 R2 GC) (b1 : rg_B 8 ri) : rg_B 8 (rg_en R1 R2 ri s) := by
  unfold rg_en
  have h := hS s.toNatClampNeg
  by_cases h1 : R1 s.toNatClampNeg ≤ ri
  · rw [if_pos h1]
    by_cases h2 : ri ≤ R2 s.toNatClampNeg
    · rw [if_pos h2]; exact b1
    · rw [if_neg h2]; exact h.2.2.1
  · rw [if_neg h1]; exact h.2.1
theorem rg_mx8 {a b : Int32} (ha : rg_B 8 a) (hb : rg_B 8 b) : rg_B 8 (rg_mx a b) := by
  unfold rg_mx
  by_cases h : a ≤ b
  · rw [if_pos h]; exact hb
  · rw [if_neg h]; exact ha
theorem rg_assoc (a b : Int32) : a + b - 1 = a + (b - 1) := by grind
/-- the frame that a call pushes, in the class's order of stores -/
def rg_fr (FR : Nat → Int32) (b ret ri fl P Q n : Int32) : Nat → Int32 := upd (upd (upd (upd (upd (upd FR (b + 0).toNatClampNeg ret) (b + 1).toNatClampNeg ri) (b + 2).toNatClampNeg fl) (b + 3).toNatClampNeg P) (b + 4).toNatClampNeg Q) (b + 5).toNatClampNeg n
theorem rg_fI {fc : Int32} {FR : Nat → Int32} (hF : rg_Fs fc FR) (h : ¬ fc = 0) (j : Nat) (hj : j < 6) : vp_in ((fc - 1) * 6 + nI j) 96 := by
  obtain ⟨n, hn, rfl, _⟩ := hF
  have h0 : n ≠ 0 := fun z => h (by rw [z]; rfl)
  obtain ⟨m, rfl⟩ := Nat.exists_eq_succ_of_ne_zero h0
  rw [Nat.succ_eq_add_one, nI_pred]
  exact rg_in6 (by omega) hj
theorem rg_fB {fc : Int32} {FR : Nat → Int32} (hF : rg_Fs fc FR) (h : ¬ fc = 0) : ∃ f : Nat, f < 16 ∧ fc = nI (f + 1) ∧ fc - 1 = nI f ∧ rg_F6 FR (f * 6) ∧ (∀ j : Nat, j < 6 → ((fc - 1) * 6 + nI j).toNatClampNeg = f * 6 + j) ∧ (∀ g, g < f → rg_F6 FR (g * 6)) := by
  obtain ⟨n, hn, rfl, hf⟩ := hF
  have h0 : n ≠ 0 := fun z => h (by rw [z]; rfl)
  obtain ⟨m, rfl⟩ := Nat.exists_eq_succ_of_ne_zero h0
  rw [Nat.succ_eq_add_one, nI_pred]
  exact ⟨m, by omega, rfl, rfl, hf m (by omega), fun j hj => rg_c6 (by omega) hj, fun g hg => hf g (by omega)⟩
theorem rg_flB {fc : Int32} {FR : Nat → Int32} (hF : rg_Fs fc FR) : rg_B 17 (rg_fl fc FR) := by
  unfold rg_fl
  by_cases h : fc = 0
  · rw [if_pos h]; exact rg_B0 (by decide)
  · rw [if_neg h]
    obtain ⟨f, hf, e1, e2, h6, hc, _⟩ := rg_fB hF h
    have e := hc 2 (by decide)
    rw [show (nI 2) = 2 from rfl] at e
    rw [e]
    exact h6.2.2.1
section
variable {sl wl dl st fa ri si so ac pa pb pc qa qb qc P Q fc cx : Int32} {L F R1 R2 R3 GC GO W H SC FR : Nat → Int32}
variable {p : Int32 → Prop} {ps : St2 → Prop} {pq : Int32 → St2 → Prop} {s o e k w : Int32}
theorem xl_pSeg (p1 : rg_B 256 pa) (p2 : rg_B 256 pb) (p3 : rg_B 8 pc) (h : p pa) : wpX_pointerSeg p () (rg_P pa pb pc) := by
  unfold wpX_pointerSeg
  rw [rg_PS p1 p2 p3]
  exact h
theorem xl_pOff (p1 : rg_B 256 pa) (p2 : rg_B 256 pb) (p3 : rg_B 8 pc) (h : p pb) : wpX_pointerOff p () (rg_P pa pb pc) := by
  unfold wpX_pointerOff
  rw [rg_PO p1 p2 p3]
  exact h
theorem xl_pRing (p1 : rg_B 256 pa) (p2 : rg_B 256 pb) (p3 : rg_B 8 pc) (h : p pc) : wpX_pointerRing p () (rg_P pa pb pc) := by
  unfold wpX_pointerRing
  rw [rg_PR p1 p2 p3]
  exact h
theorem xl_eff (p1 : rg_B 256 pa) (p2 : rg_B 256 pb) (p3 : rg_B 8 pc) (h : p (rg_mx ri pc)) : wpX_effectiveRing p (sl, wl, dl, st, fa, ri, si, so, ac, rg_P pa pb pc, Q, fc, cx, L, F, R1, R2, R3, GC, GO, W, H, SC, FR) := by
  unfold wpX_effectiveRing
  refine xl_pRing p1 p2 p3 ?_
  unfold rg_mx at h
  by_cases h1 : ri ≤ pc
  · rw [if_pos h1] at h
    by_cases h2 : pc ≤ ri
    · rw [Int32.le_antisymm h2 h1] at h
      exact br_t h2 h
    · exact br_f h2 h
  · rw [if_neg h1] at h
    exact br_t (Int32.le_of_lt (rg_nle.mp h1)) h
theorem xl_raised (p1 : rg_B 256 pa) (p2 : rg_B 256 pb) (p3 : rg_B 8 pc) (b1 : rg_B 8 ri) (h : p (rg_P pa pb (rg_mx ri pc))) : wpX_raisedTo p () (rg_P pa pb pc) ri := by
  unfold wpX_raisedTo
  refine xl_pRing p1 p2 p3 ?_
  unfold rg_mx at h
  by_cases h1 : ri ≤ pc
  · rw [if_pos h1] at h
    exact br_t h1 h
  · rw [if_neg h1] at h
    refine br_f h1 ?_
    rw [rg_PL p1 p2 p3 b1]
    exact h
theorem xl_advance (p1 : rg_B 256 pa) (p2 : rg_B 256 pb) (p3 : rg_B 8 pc) (h : ps (sl, wl, dl, st, fa, ri, si, so, ac, rg_P pa ((pb + k) &&& 255) pc, Q, fc, cx, L, F, R1, R2, R3, GC, GO, W, H, SC, FR)) : wpX_advancePointer ps (sl, wl, dl, st, fa, ri, si, so, ac, rg_P pa pb pc, Q, fc, cx, L, F, R1, R2, R3, GC, GO, W, H, SC, FR) k := by
  unfold wpX_advancePointer
  exact xl_pSeg p1 p2 p3 (xl_pOff p1 p2 p3 (nm_e (xl_pRing p1 p2 p3 h)))
theorem xl_load (c1 : rg_B 9 sl) (hS : rg_Seg L R1 R2 GC) (p1 : rg_B 256 pa) (p2 : rg_B 256 pb) (p3 : rg_B 8 pc) (h1 : ¬ rg_D sl L pa → pq 1 (sl, wl, dl, st, fa, ri, si, so, ac, rg_P pa pb pc, Q, fc, cx, L, F, R1, R2, R3, GC, GO, W, H, SC, FR)) (h2 : rg_D sl L pa → L pa.toNatClampNeg ≤ pb → pq 2 (sl, wl, dl, st, fa, ri, si, so, ac, rg_P pa pb pc, Q, fc, cx, L, F, R1, R2, R3, GC, GO, W, H, SC, FR)) (h3 : rg_D sl L pa → ¬ L pa.toNatClampNeg ≤ pb → ¬ rg_MR F R2 pa (rg_mx ri pc) → pq 4 (sl, wl, dl, st, fa, ri, si, so, ac, rg_P pa pb pc, Q, fc, cx, L, F, R1, R2, R3, GC, GO, W, H, SC, FR)) (h4 : rg_D sl L pa → ¬ L pa.toNatClampNeg ≤ pb → rg_MR F R2 pa (rg_mx ri pc) → pq 0 (sl, wl, dl, st, fa, ri, si, so + 1, W (pa * 32 + pb).toNatClampNeg, rg_P pa pb pc, Q, fc, cx, L, F, R1, R2, R3, GC, GO, W, H, SC, FR)) : wpX_load pq (sl, wl, dl, st, fa, ri, si, so, ac, rg_P pa pb pc, Q, fc, cx, L, F, R1, R2, R3, GC, GO, W, H, SC, FR) := by
  unfold wpX_load
  exact xl_pSeg p1 p2 p3 (xl_pOff p1 p2 p3 (xl_placeFault c1 (fun hd => br_f rg_1 (h1 hd)) (fun hd h => br_f rg_2 (h2 hd h)) (fun hd h => br_t rfl (xl_eff p1 p2 p3 (xl_mayRead (rg_DI c1 hd) (fun hm => br_f rg_1 ⟨rg_i32 (rg_D8' c1 hd) (rg_O32 hS _ (rg_Bn p2 (by decide)) h), nm_e (nm_e (h4 hd h hm))⟩) (fun hm => br_t rfl (h3 hd h hm)))))))
theorem xl_store (c1 : rg_B 9 sl) (hS : rg_Seg L R1 R2 GC) (p1 : rg_B 256 pa) (p2 : rg_B 256 pb) (p3 : rg_B 8 pc) (h1 : ¬ rg_D sl L pa → pq 1 (sl, wl, dl, st, fa, ri, si, so, ac, rg_P pa pb pc, Q, fc, cx, L, F, R1, R2, R3, GC, GO, W, H, SC, FR)) (h2 : rg_D sl L pa → L pa.toNatClampNeg ≤ pb → pq 2 (sl, wl, dl, st, fa, ri, si, so, ac, rg_P pa pb pc, Q, fc, cx, L, F, R1, R2, R3, GC, GO, W, H, SC, FR)) (h3 : rg_D sl L pa → ¬ L pa.toNatClampNeg ≤ pb → ¬ rg_MW F R1 pa (rg_mx ri pc) → pq 5 (sl, wl, dl, st, fa, ri, si, so, ac, rg_P pa pb pc, Q, fc, cx, L, F, R1, R2, R3, GC, GO, W, H, SC, FR)) (h4 : rg_D sl L pa → ¬ L pa.toNatClampNeg ≤ pb → rg_MW F R1 pa (rg_mx ri pc) → pq 0 (sl, wl, dl, st, fa, ri, si, so + 1, ac, rg_P pa pb pc, Q, fc, cx, L, F, R1, R2, R3, GC, GO, upd W (pa * 32 + pb).toNatClampNeg ac, H, SC, FR)) : wpX_store pq (sl, wl, dl, st, fa, ri, si, so, ac, rg_P pa pb pc, Q, fc, cx, L, F, R1, R2, R3, GC, GO, W, H, SC, FR) := by
  unfold wpX_store
  exact xl_pSeg p1 p2 p3 (xl_pOff p1 p2 p3 (xl_placeFault c1 (fun hd => br_f rg_1 (h1 hd)) (fun hd h => br_f rg_2 (h2 hd h)) (fun hd h => br_t rfl (xl_eff p1 p2 p3 (xl_mayWrite (rg_DI c1 hd) (fun hm => br_f rg_1 ⟨rg_i32 (rg_D8' c1 hd) (rg_O32 hS _ (rg_Bn p2 (by decide)) h), nm_e (nm_e (h4 hd h hm))⟩) (fun hm => br_t rfl (h3 hd h hm)))))))
theorem xl_push (b1 : rg_B 8 ri) (c3 : rg_B 17 dl) (hH : rg_Hs H) (h1 : ¬ H ri.toNatClampNeg < dl → pq 8 (sl, wl, dl, st, fa, ri, si, so, ac, P, Q, fc, cx, L, F, R1, R2, R3, GC, GO, W, H, SC, FR)) (h2 : H ri.toNatClampNeg < dl → pq 0 (sl, wl, dl, st, fa, ri, si, so + 1, ac, P, Q, fc, cx, L, F, R1, R2, R3, GC, GO, W, upd H ri.toNatClampNeg (H ri.toNatClampNeg + 1), upd SC (ri * 16 + H ri.toNatClampNeg).toNatClampNeg ac, FR)) : wpX_push pq (sl, wl, dl, st, fa, ri, si, so, ac, P, Q, fc, cx, L, F, R1, R2, R3, GC, GO, W, H, SC, FR) :=
  And.intro (rg_Bin b1 (by decide)) (nm_e (br_c (fun h => ⟨rg_i16 b1 (rg_Bl (n := 16) c3 (by decide) (rg_Bn (hH _) (by decide)) h), nm_e ⟨rg_Bin b1 (by decide), nm_e (nm_e (h2 h))⟩⟩) h1))
theorem xl_floor (hF : rg_Fs fc FR) (h : p (rg_fl fc FR)) : wpX_innermostFloor p (sl, wl, dl, st, fa, ri, si, so, ac, P, Q, fc, cx, L, F, R1, R2, R3, GC, GO, W, H, SC, FR) := by
  unfold rg_fl at h
  by_cases h1 : fc = 0
  · rw [if_pos h1] at h
    exact br_t h1 h
  · rw [if_neg h1] at h
    exact br_f h1 ⟨rg_fI hF h1 2 (by decide), h⟩
theorem xl_pop (b1 : rg_B 8 ri) (hH : rg_Hs H) (hF : rg_Fs fc FR) (h1 : ¬ rg_fl fc FR < H ri.toNatClampNeg → pq 8 (sl, wl, dl, st, fa, ri, si, so, ac, P, Q, fc, cx, L, F, R1, R2, R3, GC, GO, W, H, SC, FR)) (h2 : rg_fl fc FR < H ri.toNatClampNeg → vp_in (ri * 16 + (H ri.toNatClampNeg - 1)) 128 → pq 0 (sl, wl, dl, st, fa, ri, si, so + 1, SC (ri * 16 + (H ri.toNatClampNeg - 1)).toNatClampNeg, P, Q, fc, cx, L, F, R1, R2, R3, GC, GO, W, upd H ri.toNatClampNeg (H ri.toNatClampNeg - 1), SC, FR)) : wpX_pop pq (sl, wl, dl, st, fa, ri, si, so, ac, P, Q, fc, cx, L, F, R1, R2, R3, GC, GO, W, H, SC, FR) := by
  have hv : rg_fl fc FR < H ri.toNatClampNeg → vp_in (ri * 16 + (H ri.toNatClampNeg - 1)) 128 := by
    intro h
    obtain ⟨f, hf, ef⟩ := rg_flB hF
    obtain ⟨t, ht, et⟩ := hH ri.toNatClampNeg
    rw [ef, et, nI_ltI (by omega) (by omega)] at h
    obtain ⟨m, rfl⟩ : ∃ m, t = m + 1 := ⟨t - 1, by omega⟩
    rw [et, nI_pred]
    exact rg_i16 b1 ⟨m, by omega, rfl⟩
  refine And.intro (rg_Bin b1 (by decide)) (nm_e (xl_floor hF (br_c (fun h => ?_) h1)))
  have h3 := h2 h (hv h)
  have h4 := hv h
  rw [← rg_assoc] at h3 h4
  exact ⟨h4, nm_e ⟨rg_Bin b1 (by decide), nm_e (nm_e h3)⟩⟩
theorem xl_pushFrame (b1 : rg_B 8 k) (hF : rg_B 16 fc) (h : ps (sl, wl, dl, st, fa, ri, si, so, ac, P, Q, fc + 1, cx, L, F, R1, R2, R3, GC, GO, W, H, SC, rg_fr FR (fc * 6) (si * 256 + so + 1) ri (H k.toNatClampNeg) P Q k)) : wpX_pushFrame ps (sl, wl, dl, st, fa, ri, si, so, ac, P, Q, fc, cx, L, F, R1, R2, R3, GC, GO, W, H, SC, FR) k :=
  nm_e ⟨rg_i6 (o := nI 0) hF ⟨0, by decide, rfl⟩, nm_e ⟨rg_i6 (o := nI 1) hF ⟨1, by decide, rfl⟩, nm_e ⟨rg_Bin b1 (by decide), rg_i6 (o := nI 2) hF ⟨2, by decide, rfl⟩, nm_e ⟨rg_i6 (o := nI 3) hF ⟨3, by decide, rfl⟩, nm_e ⟨rg_i6 (o := nI 4) hF ⟨4, by decide, rfl⟩, nm_e ⟨rg_i6 (o := nI 5) hF ⟨5, by decide, rfl⟩, nm_e (nm_e h)⟩⟩⟩⟩⟩⟩
theorem xl_call53 (hv : vp_in s 8) (hS : rg_Seg L R1 R2 GC) (b1 : rg_B 8 ri) (hF : rg_Fs fc FR) (c3 : rg_B 17 dl) (p1 : rg_B 256 pa) (p2 : rg_B 256 pb) (p3 : rg_B 8 pc) (q1 : rg_B 256 qa) (q2 : rg_B 256 qb) (q3 : rg_B 8 qc) (h1 : ¬ fc < dl → pq 9 (sl, wl, dl, st, fa, ri, si, so, ac, rg_P pa pb pc, rg_P qa qb qc, fc, cx, L, F, R1, R2, R3, GC, GO, W, H, SC, FR)) (h2 : fc < dl → pq 0 (sl, wl, dl, st, fa, rg_en R1 R2 ri s, s, o, ac, rg_P pa pb (rg_mx ri pc), rg_P qa qb (rg_mx ri qc), fc + 1, cx, L, F, R1, R2, R3, GC, GO, W, H, SC, rg_fr FR (fc * 6) (si * 256 + so + 1) ri (H (rg_en R1 R2 ri s).toNatClampNeg) (rg_P pa pb pc) (rg_P qa qb qc) (rg_en R1 R2 ri s))) : wX_callSegment_53 pq s o sl wl dl st fa ri si so ac (rg_P pa pb pc) (rg_P qa qb qc) fc cx L F R1 R2 R3 GC GO W H SC FR := by
  refine br_c (fun h => ⟨hv, hv, xl_clamp ?_⟩) h1
  have hf : rg_B 16 fc := by
    obtain ⟨n, hn, e, _⟩ := hF
    exact rg_Bl (n := 16) c3 (by decide) (rg_Bn ⟨n, hn, e⟩ (by decide)) h
  exact xl_pushFrame (rg_en8 hS b1) hf (xl_raised p1 p2 p3 b1 (xl_raised q1 q2 q3 b1 (h2 h)))
theorem xl_call (c1 : rg_B 9 sl) (hS : rg_Seg L R1 R2 GC) (b1 : rg_B 8 ri) (hF : rg_Fs fc FR) (c3 : rg_B 17 dl) (p1 : rg_B 256 pa) (p2 : rg_B 256 pb) (p3 : rg_B 8 pc) (q1 : rg_B 256 qa) (q2 : rg_B 256 qb) (q3 : rg_B 8 qc) (h1 : ¬ rg_D sl L s → pq 1 (sl, wl, dl, st, fa, ri, si, so, ac, rg_P pa pb pc, rg_P qa qb qc, fc, cx, L, F, R1, R2, R3, GC, GO, W, H, SC, FR)) (h2 : rg_D sl L s → L s.toNatClampNeg ≤ o → pq 2 (sl, wl, dl, st, fa, ri, si, so, ac, rg_P pa pb pc, rg_P qa qb qc, fc, cx, L, F, R1, R2, R3, GC, GO, W, H, SC, FR)) (h3 : rg_D sl L s → ¬ L s.toNatClampNeg ≤ o → ¬ rg_MC F R3 s ri → pq 6 (sl, wl, dl, st, fa, ri, si, so, ac, rg_P pa pb pc, rg_P qa qb qc, fc, cx, L, F, R1, R2, R3, GC, GO, W, H, SC, FR)) (h4 : rg_D sl L s → ¬ L s.toNatClampNeg ≤ o → rg_MC F R3 s ri → ¬ ri ≤ R2 s.toNatClampNeg → ¬ rg_G GC GO s o → pq 7 (sl, wl, dl, st, fa, ri, si, so, ac, rg_P pa pb pc, rg_P qa qb qc, fc, cx, L, F, R1, R2, R3, GC, GO, W, H, SC, FR)) (h5 : rg_D sl L s → ¬ L s.toNatClampNeg ≤ o → rg_MC F R3 s ri → (ri ≤ R2 s.toNatClampNeg ∨ rg_G GC GO s o) → ¬ fc < dl → pq 9 (sl, wl, dl, st, fa, ri, si, so, ac, rg_P pa pb pc, rg_P qa qb qc, fc, cx, L, F, R1, R2, R3, GC, GO, W, H, SC, FR)) (h6 : rg_D sl L s → ¬ L s.toNatClampNeg ≤ o → rg_MC F R3 s ri → (ri ≤ R2 s.toNatClampNeg ∨ rg_G GC GO s o) → fc < dl → pq 0 (sl, wl, dl, st, fa, rg_en R1 R2 ri s, s, o, ac, rg_P pa pb (rg_mx ri pc), rg_P qa qb (rg_mx ri qc), fc + 1, cx, L, F, R1, R2, R3, GC, GO, W, H, SC, rg_fr FR (fc * 6) (si * 256 + so + 1) ri (H (rg_en R1 R2 ri s).toNatClampNeg) (rg_P pa pb pc) (rg_P qa qb qc) (rg_en R1 R2 ri s))) : wpX_callSegment pq (sl, wl, dl, st, fa, ri, si, so, ac, rg_P pa pb pc, rg_P qa qb qc, fc, cx, L, F, R1, R2, R3, GC, GO, W, H, SC, FR) s o := by
  unfold wpX_callSegment
  exact xl_placeFault c1 (fun hd => br_f rg_1 (h1 hd)) (fun hd h => br_f rg_2 (h2 hd h)) (fun hd h => br_t rfl (xl_isCallable (rg_DI c1 hd) (fun hm => br_f rg_1 ⟨rg_DI c1 hd, br_c (fun hr => xl_call53 (rg_DI c1 hd) hS b1 hF c3 p1 p2 p3 q1 q2 q3 (h5 hd h hm (Or.inl hr)) (h6 hd h hm (Or.inl hr))) (fun hr => xl_isGate (rg_D8' c1 hd) (hS _).2.2.2.2 (fun hg => br_f rg_1 (xl_call53 (rg_DI c1 hd) hS b1 hF c3 p1 p2 p3 q1 q2 q3 (h5 hd h hm (Or.inr hg)) (h6 hd h hm (Or.inr hg)))) (fun hg => br_t rfl (h4 hd h hm hr hg)))⟩) (fun hm => br_t rfl (h3 hd h hm))))
theorem xl_ret (b1 : rg_B 8 ri) (hF : rg_Fs fc FR) (h1 : fc = 0 → pq 9 (sl, wl, dl, st, fa, ri, si, so, ac, P, Q, fc, cx, L, F, R1, R2, R3, GC, GO, W, H, SC, FR)) (h2 : ¬ fc = 0 → pq 0 (sl, wl, dl, st, fa, FR ((fc - 1) * 6 + 1).toNatClampNeg, FR ((fc - 1) * 6 + 0).toNatClampNeg / 256, FR ((fc - 1) * 6 + 0).toNatClampNeg - FR ((fc - 1) * 6 + 0).toNatClampNeg / 256 * 256, ac, FR ((fc - 1) * 6 + 3).toNatClampNeg, FR ((fc - 1) * 6 + 4).toNatClampNeg, fc - 1, cx, L, F, R1, R2, R3, GC, GO, W, upd H ri.toNatClampNeg (FR ((fc - 1) * 6 + 2).toNatClampNeg), SC, FR)) : wpX_returnToCaller pq (sl, wl, dl, st, fa, ri, si, so, ac, P, Q, fc, cx, L, F, R1, R2, R3, GC, GO, W, H, SC, FR) :=
  br_c h1 (fun h => nm_e ⟨rg_fI hF h 0 (by decide), nm_e ⟨rg_fI hF h 2 (by decide), rg_Bin b1 (by decide), nm_e ⟨rg_fI hF h 1 (by decide), nm_e ⟨by decide, nm_e ⟨by decide, nm_e ⟨rg_fI hF h 3 (by decide), nm_e ⟨rg_fI hF h 4 (by decide), nm_e (nm_e (h2 h))⟩⟩⟩⟩⟩⟩⟩)
theorem xr_1  (hp : pq 0 (sl, wl, dl, st, fa, ri, si, so + 1, w &&& 65535, rg_P pa pb pc, rg_P qa qb qc, fc, cx, L, F, R1, R2, R3, GC, GO, W, H, SC, FR)) : wpX_executeOnRegisters pq (sl, wl, dl, st, fa, ri, si, so, ac, rg_P pa pb pc, rg_P qa qb qc, fc, cx, L, F, R1, R2, R3, GC, GO, W, H, SC, FR) 1 w :=
  nm_e (nm_e (nm_e (br_f (by decide) (br_f (by decide) (br_t rfl (nm_e hp))))))
theorem xr_2  (hp : pq 0 (sl, wl, dl, st, fa, ri, si, so + 1, ac + (w &&& 65535), rg_P pa pb pc, rg_P qa qb qc, fc, cx, L, F, R1, R2, R3, GC, GO, W, H, SC, FR)) : wpX_executeOnRegisters pq (sl, wl, dl, st, fa, ri, si, so, ac, rg_P pa pb pc, rg_P qa qb qc, fc, cx, L, F, R1, R2, R3, GC, GO, W, H, SC, FR) 2 w :=
  nm_e (nm_e (nm_e (br_f (by decide) (br_f (by decide) (br_f (by decide) (br_t rfl (nm_e (nm_e hp))))))))
theorem xr_3  (hp : pq 0 (sl, wl, dl, st, fa, ri, si, so + 1, ac, rg_P (((w).toUInt32 >>> ((8 : Int32).toUInt32 &&& Int32.toUInt32 31)).toInt32 &&& 255) (w &&& 255) ri, rg_P qa qb qc, fc, cx, L, F, R1, R2, R3, GC, GO, W, H, SC, FR)) : wpX_executeOnRegisters pq (sl, wl, dl, st, fa, ri, si, so, ac, rg_P pa pb pc, rg_P qa qb qc, fc, cx, L, F, R1, R2, R3, GC, GO, W, H, SC, FR) 3 w :=
  nm_e (nm_e (nm_e (br_f (by decide) (br_f (by decide) (br_f (by decide) (br_f (by decide) (br_t rfl (nm_e hp))))))))
theorem xr_4 (p1 : rg_B 256 pa) (p2 : rg_B 256 pb) (p3 : rg_B 8 pc) (hp : pq 0 (sl, wl, dl, st, fa, ri, si, so + 1, ac, rg_P pa ((pb + (w &&& 255)) &&& 255) pc, rg_P qa qb qc, fc, cx, L, F, R1, R2, R3, GC, GO, W, H, SC, FR)) : wpX_executeOnRegisters pq (sl, wl, dl, st, fa, ri, si, so, ac, rg_P pa pb pc, rg_P qa qb qc, fc, cx, L, F, R1, R2, R3, GC, GO, W, H, SC, FR) 4 w :=
  nm_e (nm_e (nm_e (br_f (by decide) (br_f (by decide) (br_f (by decide) (br_f (by decide) (br_f (by decide) (br_t rfl (xl_advance p1 p2 p3 (nm_e hp))))))))))
theorem xr_5  (hp : pq 0 (sl, wl, dl, st, fa, ri, si, so + 1, ac, rg_P qa qb qc, rg_P pa pb pc, fc, cx, L, F, R1, R2, R3, GC, GO, W, H, SC, FR)) : wpX_executeOnRegisters pq (sl, wl, dl, st, fa, ri, si, so, ac, rg_P pa pb pc, rg_P qa qb qc, fc, cx, L, F, R1, R2, R3, GC, GO, W, H, SC, FR) 5 w :=
  nm_e (nm_e (nm_e (br_f (by decide) (br_f (by decide) (br_f (by decide) (br_f (by decide) (br_f (by decide) (br_f (by decide) (br_t rfl (nm_e hp))))))))))
theorem xr_14  (hp : pq 0 (sl, wl, dl, st, fa, ri, si, so + 1, ri, rg_P pa pb pc, rg_P qa qb qc, fc, cx, L, F, R1, R2, R3, GC, GO, W, H, SC, FR)) : wpX_executeOnRegisters pq (sl, wl, dl, st, fa, ri, si, so, ac, rg_P pa pb pc, rg_P qa qb qc, fc, cx, L, F, R1, R2, R3, GC, GO, W, H, SC, FR) 14 w :=
  nm_e (nm_e (nm_e (br_f (by decide) (br_f (by decide) (br_f (by decide) (br_f (by decide) (br_f (by decide) (br_f (by decide) (br_f (by decide) (br_f (by decide) (br_f (by decide) (br_f (by decide) (br_f (by decide) (br_f (by decide) (br_f (by decide) (br_f (by decide) (br_f (by decide) (br_t rfl (nm_e hp)))))))))))))))))))
theorem xr_15 (p1 : rg_B 256 pa) (p2 : rg_B 256 pb) (p3 : rg_B 8 pc) (hp : pq 0 (sl, wl, dl, st, fa, ri, si, so + 1, pc, rg_P pa pb pc, rg_P qa qb qc, fc, cx, L, F, R1, R2, R3, GC, GO, W, H, SC, FR)) : wpX_executeOnRegisters pq (sl, wl, dl, st, fa, ri, si, so, ac, rg_P pa pb pc, rg_P qa qb qc, fc, cx, L, F, R1, R2, R3, GC, GO, W, H, SC, FR) 15 w :=
  nm_e (nm_e (nm_e (br_f (by decide) (br_f (by decide) (br_f (by decide) (br_f (by decide) (br_f (by decide) (br_f (by decide) (br_f (by decide) (br_f (by decide) (br_f (by decide) (br_f (by decide) (br_f (by decide) (br_f (by decide) (br_f (by decide) (br_f (by decide) (br_f (by decide) (br_f (by decide) (br_t rfl (xl_pRing p1 p2 p3 (nm_e hp)))))))))))))))))))))
theorem xr_d (h : 15 < k) (h0 : ¬ k < 1) (hp : pq 10 (sl, wl, dl, st, fa, ri, si, so, ac, rg_P pa pb pc, rg_P qa qb qc, fc, cx, L, F, R1, R2, R3, GC, GO, W, H, SC, FR)) : wpX_executeOnRegisters pq (sl, wl, dl, st, fa, ri, si, so, ac, rg_P pa pb pc, rg_P qa qb qc, fc, cx, L, F, R1, R2, R3, GC, GO, W, H, SC, FR) k w :=
  nm_e (nm_e (nm_e (br_f h0 (br_t h hp))))
end
end
section
theorem rg_mxp {a b : Int32} (h : a ≤ b) : rg_mx a b = b := if_pos h
theorem rg_mxn {a b : Int32} (h : ¬ a ≤ b) : rg_mx a b = a := if_neg h
section
variable {sl wl dl st fa ri si so ac pa pb pc qa qb qc fc cx : Int32} {L F R1 R2 R3 GC GO W H SC FR : Nat → Int32}
variable {pq K : Int32 → St2 → Prop} {s o e k w : Int32}
theorem x_168 (hp : ∀ K' : Int32 → St2 → Prop, (∀ r sl1 wl1 dl1 st1 fa1 ri1 si1 so1 ac1 P1 Q1 fc1 cx1 L1 F1 R11 R21 R31 GC1 GO1 W1 H1 SC1 FR1, K r (sl1, wl1, dl1, st1, fa1, ri1, si1, so1, ac1, P1, Q1, fc1, cx1, L1, F1, R11, R21, R31, GC1, GO1, W1, H1, SC1, FR1) → K' r (sl1, wl1, dl1, st1, fa1, ri1, si1, so1, ac1, P1, Q1, fc1, cx1, L1, F1, R11, R21, R31, GC1, GO1, W1, H1, SC1, FR1)) → wpX_executeOnRegisters K' (sl, wl, dl, st, fa, ri, si, so, ac, rg_P pa pb pc, rg_P qa qb qc, fc, cx, L, F, R1, R2, R3, GC, GO, W, H, SC, FR) k w) : wX_execute_168 K w k sl wl dl st fa ri si so ac (rg_P pa pb pc) (rg_P qa qb qc) fc cx L F R1 R2 R3 GC GO W H SC FR := by
  unfold wX_execute_168
  exact hp _ (fun _ _ _ _ _ _ _ _ _ _ _ _ _ _ _ _ _ _ _ _ _ _ _ _ _ h => h)
theorem xe_0 (hop : ((w).toUInt32 >>> ((16 : Int32).toUInt32 &&& Int32.toUInt32 31)).toInt32 &&& 255 = 0) (hp : K 0 (sl, wl, dl, 2, fa, ri, si, so, ac, rg_P pa pb pc, rg_P qa qb qc, fc, cx, L, F, R1, R2, R3, GC, GO, W, H, SC, FR)) : wpX_execute K (sl, wl, dl, st, fa, ri, si, so, ac, rg_P pa pb pc, rg_P qa qb qc, fc, cx, L, F, R1, R2, R3, GC, GO, W, H, SC, FR) w :=
  nm_r hop (nm_e (nm_e (br_f (by decide) (br_f (by decide) (br_t rfl hp)))))
theorem xe_1 (hop : ((w).toUInt32 >>> ((16 : Int32).toUInt32 &&& Int32.toUInt32 31)).toInt32 &&& 255 = 1) (hp : ∀ K' : Int32 → St2 → Prop, (∀ r sl1 wl1 dl1 st1 fa1 ri1 si1 so1 ac1 P1 Q1 fc1 cx1 L1 F1 R11 R21 R31 GC1 GO1 W1 H1 SC1 FR1, K r (sl1, wl1, dl1, st1, fa1, ri1, si1, so1, ac1, P1, Q1, fc1, cx1, L1, F1, R11, R21, R31, GC1, GO1, W1, H1, SC1, FR1) → K' r (sl1, wl1, dl1, st1, fa1, ri1, si1, so1, ac1, P1, Q1, fc1, cx1, L1, F1, R11, R21, R31, GC1, GO1, W1, H1, SC1, FR1)) → wpX_executeOnRegisters K' (sl, wl, dl, st, fa, ri, si, so, ac, rg_P pa pb pc, rg_P qa qb qc, fc, cx, L, F, R1, R2, R3, GC, GO, W, H, SC, FR) 1 w) : wpX_execute K (sl, wl, dl, st, fa, ri, si, so, ac, rg_P pa pb pc, rg_P qa qb qc, fc, cx, L, F, R1, R2, R3, GC, GO, W, H, SC, FR) w :=
  nm_r hop (nm_e (nm_e (br_f (by decide) (br_f (by decide) (br_f (by decide) (br_t rfl (x_168 hp)))))))
theorem xe_2 (hop : ((w).toUInt32 >>> ((16 : Int32).toUInt32 &&& Int32.toUInt32 31)).toInt32 &&& 255 = 2) (hp : ∀ K' : Int32 → St2 → Prop, (∀ r sl1 wl1 dl1 st1 fa1 ri1 si1 so1 ac1 P1 Q1 fc1 cx1 L1 F1 R11 R21 R31 GC1 GO1 W1 H1 SC1 FR1, K r (sl1, wl1, dl1, st1, fa1, ri1, si1, so1, ac1, P1, Q1, fc1, cx1, L1, F1, R11, R21, R31, GC1, GO1, W1, H1, SC1, FR1) → K' r (sl1, wl1, dl1, st1, fa1, ri1, si1, so1, ac1, P1, Q1, fc1, cx1, L1, F1, R11, R21, R31, GC1, GO1, W1, H1, SC1, FR1)) → wpX_executeOnRegisters K' (sl, wl, dl, st, fa, ri, si, so, ac, rg_P pa pb pc, rg_P qa qb qc, fc, cx, L, F, R1, R2, R3, GC, GO, W, H, SC, FR) 2 w) : wpX_execute K (sl, wl, dl, st, fa, ri, si, so, ac, rg_P pa pb pc, rg_P qa qb qc, fc, cx, L, F, R1, R2, R3, GC, GO, W, H, SC, FR) w :=
  nm_r hop (nm_e (nm_e (br_f (by decide) (br_f (by decide) (br_f (by decide) (br_f (by decide) (br_t rfl (x_168 hp))))))))
theorem xe_3 (hop : ((w).toUInt32 >>> ((16 : Int32).toUInt32 &&& Int32.toUInt32 31)).toInt32 &&& 255 = 3) (hp : ∀ K' : Int32 → St2 → Prop, (∀ r sl1 wl1 dl1 st1 fa1 ri1 si1 so1 ac1 P1 Q1 fc1 cx1 L1 F1 R11 R21 R31 GC1 GO1 W1 H1 SC1 FR1, K r (sl1, wl1, dl1, st1, fa1, ri1, si1, so1, ac1, P1, Q1, fc1, cx1, L1, F1, R11, R21, R31, GC1, GO1, W1, H1, SC1, FR1) → K' r (sl1, wl1, dl1, st1, fa1, ri1, si1, so1, ac1, P1, Q1, fc1, cx1, L1, F1, R11, R21, R31, GC1, GO1, W1, H1, SC1, FR1)) → wpX_executeOnRegisters K' (sl, wl, dl, st, fa, ri, si, so, ac, rg_P pa pb pc, rg_P qa qb qc, fc, cx, L, F, R1, R2, R3, GC, GO, W, H, SC, FR) 3 w) : wpX_execute K (sl, wl, dl, st, fa, ri, si, so, ac, rg_P pa pb pc, rg_P qa qb qc, fc, cx, L, F, R1, R2, R3, GC, GO, W, H, SC, FR) w :=
  nm_r hop (nm_e (nm_e (br_f (by decide) (br_f (by decide) (br_f (by decide) (br_f (by decide) (br_f (by decide) (br_t rfl (x_168 hp)))))))))
theorem xe_4 (hop : ((w).toUInt32 >>> ((16 : Int32).toUInt32 &&& Int32.toUInt32 31)).toInt32 &&& 255 = 4) (hp : ∀ K' : Int32 → St2 → Prop, (∀ r sl1 wl1 dl1 st1 fa1 ri1 si1 so1 ac1 P1 Q1 fc1 cx1 L1 F1 R11 R21 R31 GC1 GO1 W1 H1 SC1 FR1, K r (sl1, wl1, dl1, st1, fa1, ri1, si1, so1, ac1, P1, Q1, fc1, cx1, L1, F1, R11, R21, R31, GC1, GO1, W1, H1, SC1, FR1) → K' r (sl1, wl1, dl1, st1, fa1, ri1, si1, so1, ac1, P1, Q1, fc1, cx1, L1, F1, R11, R21, R31, GC1, GO1, W1, H1, SC1, FR1)) → wpX_executeOnRegisters K' (sl, wl, dl, st, fa, ri, si, so, ac, rg_P pa pb pc, rg_P qa qb qc, fc, cx, L, F, R1, R2, R3, GC, GO, W, H, SC, FR) 4 w) : wpX_execute K (sl, wl, dl, st, fa, ri, si, so, ac, rg_P pa pb pc, rg_P qa qb qc, fc, cx, L, F, R1, R2, R3, GC, GO, W, H, SC, FR) w :=
  nm_r hop (nm_e (nm_e (br_f (by decide) (br_f (by decide) (br_f (by decide) (br_f (by decide) (br_f (by decide) (br_f (by decide) (br_t rfl (x_168 hp))))))))))
theorem xe_5 (hop : ((w).toUInt32 >>> ((16 : Int32).toUInt32 &&& Int32.toUInt32 31)).toInt32 &&& 255 = 5) (hp : ∀ K' : Int32 → St2 → Prop, (∀ r sl1 wl1 dl1 st1 fa1 ri1 si1 so1 ac1 P1 Q1 fc1 cx1 L1 F1 R11 R21 R31 GC1 GO1 W1 H1 SC1 FR1, K r (sl1, wl1, dl1, st1, fa1, ri1, si1, so1, ac1, P1, Q1, fc1, cx1, L1, F1, R11, R21, R31, GC1, GO1, W1, H1, SC1, FR1) → K' r (sl1, wl1, dl1, st1, fa1, ri1, si1, so1, ac1, P1, Q1, fc1, cx1, L1, F1, R11, R21, R31, GC1, GO1, W1, H1, SC1, FR1)) → wpX_executeOnRegisters K' (sl, wl, dl, st, fa, ri, si, so, ac, rg_P pa pb pc, rg_P qa qb qc, fc, cx, L, F, R1, R2, R3, GC, GO, W, H, SC, FR) 5 w) : wpX_execute K (sl, wl, dl, st, fa, ri, si, so, ac, rg_P pa pb pc, rg_P qa qb qc, fc, cx, L, F, R1, R2, R3, GC, GO, W, H, SC, FR) w :=
  nm_r hop (nm_e (nm_e (br_f (by decide) (br_f (by decide) (br_f (by decide) (br_f (by decide) (br_f (by decide) (br_f (by decide) (br_f (by decide) (br_t rfl (x_168 hp)))))))))))
theorem xe_14 (hop : ((w).toUInt32 >>> ((16 : Int32).toUInt32 &&& Int32.toUInt32 31)).toInt32 &&& 255 = 14) (hp : ∀ K' : Int32 → St2 → Prop, (∀ r sl1 wl1 dl1 st1 fa1 ri1 si1 so1 ac1 P1 Q1 fc1 cx1 L1 F1 R11 R21 R31 GC1 GO1 W1 H1 SC1 FR1, K r (sl1, wl1, dl1, st1, fa1, ri1, si1, so1, ac1, P1, Q1, fc1, cx1, L1, F1, R11, R21, R31, GC1, GO1, W1, H1, SC1, FR1) → K' r (sl1, wl1, dl1, st1, fa1, ri1, si1, so1, ac1, P1, Q1, fc1, cx1, L1, F1, R11, R21, R31, GC1, GO1, W1, H1, SC1, FR1)) → wpX_executeOnRegisters K' (sl, wl, dl, st, fa, ri, si, so, ac, rg_P pa pb pc, rg_P qa qb qc, fc, cx, L, F, R1, R2, R3, GC, GO, W, H, SC, FR) 14 w) : wpX_execute K (sl, wl, dl, st, fa, ri, si, so, ac, rg_P pa pb pc, rg_P qa qb qc, fc, cx, L, F, R1, R2, R3, GC, GO, W, H, SC, FR) w :=
  nm_r hop (nm_e (nm_e (br_f (by decide) (br_t (by decide) (x_168 hp)))))
theorem xe_15 (hop : ((w).toUInt32 >>> ((16 : Int32).toUInt32 &&& Int32.toUInt32 31)).toInt32 &&& 255 = 15) (hp : ∀ K' : Int32 → St2 → Prop, (∀ r sl1 wl1 dl1 st1 fa1 ri1 si1 so1 ac1 P1 Q1 fc1 cx1 L1 F1 R11 R21 R31 GC1 GO1 W1 H1 SC1 FR1, K r (sl1, wl1, dl1, st1, fa1, ri1, si1, so1, ac1, P1, Q1, fc1, cx1, L1, F1, R11, R21, R31, GC1, GO1, W1, H1, SC1, FR1) → K' r (sl1, wl1, dl1, st1, fa1, ri1, si1, so1, ac1, P1, Q1, fc1, cx1, L1, F1, R11, R21, R31, GC1, GO1, W1, H1, SC1, FR1)) → wpX_executeOnRegisters K' (sl, wl, dl, st, fa, ri, si, so, ac, rg_P pa pb pc, rg_P qa qb qc, fc, cx, L, F, R1, R2, R3, GC, GO, W, H, SC, FR) 15 w) : wpX_execute K (sl, wl, dl, st, fa, ri, si, so, ac, rg_P pa pb pc, rg_P qa qb qc, fc, cx, L, F, R1, R2, R3, GC, GO, W, H, SC, FR) w :=
  nm_r hop (nm_e (nm_e (br_f (by decide) (br_t (by decide) (x_168 hp)))))
theorem xe_6 (hop : ((w).toUInt32 >>> ((16 : Int32).toUInt32 &&& Int32.toUInt32 31)).toInt32 &&& 255 = 6) (hp : ∀ K' : Int32 → St2 → Prop, (∀ r sl1 wl1 dl1 st1 fa1 ri1 si1 so1 ac1 P1 Q1 fc1 cx1 L1 F1 R11 R21 R31 GC1 GO1 W1 H1 SC1 FR1, K r (sl1, wl1, dl1, st1, fa1, ri1, si1, so1, ac1, P1, Q1, fc1, cx1, L1, F1, R11, R21, R31, GC1, GO1, W1, H1, SC1, FR1) → K' r (sl1, wl1, dl1, st1, fa1, ri1, si1, so1, ac1, P1, Q1, fc1, cx1, L1, F1, R11, R21, R31, GC1, GO1, W1, H1, SC1, FR1)) → wpX_load K' (sl, wl, dl, st, fa, ri, si, so, ac, rg_P pa pb pc, rg_P qa qb qc, fc, cx, L, F, R1, R2, R3, GC, GO, W, H, SC, FR)) : wpX_execute K (sl, wl, dl, st, fa, ri, si, so, ac, rg_P pa pb pc, rg_P qa qb qc, fc, cx, L, F, R1, R2, R3, GC, GO, W, H, SC, FR) w :=
  nm_r hop (nm_e (nm_e (br_f (by decide) (br_f (by decide) (br_f (by decide) (br_f (by decide) (br_f (by decide) (br_f (by decide) (br_f (by decide) (br_f (by decide) (br_t rfl (hp _ (fun _ _ _ _ _ _ _ _ _ _ _ _ _ _ _ _ _ _ _ _ _ _ _ _ _ h => h)))))))))))))
theorem xe_7 (hop : ((w).toUInt32 >>> ((16 : Int32).toUInt32 &&& Int32.toUInt32 31)).toInt32 &&& 255 = 7) (hp : ∀ K' : Int32 → St2 → Prop, (∀ r sl1 wl1 dl1 st1 fa1 ri1 si1 so1 ac1 P1 Q1 fc1 cx1 L1 F1 R11 R21 R31 GC1 GO1 W1 H1 SC1 FR1, K r (sl1, wl1, dl1, st1, fa1, ri1, si1, so1, ac1, P1, Q1, fc1, cx1, L1, F1, R11, R21, R31, GC1, GO1, W1, H1, SC1, FR1) → K' r (sl1, wl1, dl1, st1, fa1, ri1, si1, so1, ac1, P1, Q1, fc1, cx1, L1, F1, R11, R21, R31, GC1, GO1, W1, H1, SC1, FR1)) → wpX_store K' (sl, wl, dl, st, fa, ri, si, so, ac, rg_P pa pb pc, rg_P qa qb qc, fc, cx, L, F, R1, R2, R3, GC, GO, W, H, SC, FR)) : wpX_execute K (sl, wl, dl, st, fa, ri, si, so, ac, rg_P pa pb pc, rg_P qa qb qc, fc, cx, L, F, R1, R2, R3, GC, GO, W, H, SC, FR) w :=
  nm_r hop (nm_e (nm_e (br_f (by decide) (br_f (by decide) (br_f (by decide) (br_f (by decide) (br_f (by decide) (br_f (by decide) (br_f (by decide) (br_f (by decide) (br_f (by decide) (br_t rfl (hp _ (fun _ _ _ _ _ _ _ _ _ _ _ _ _ _ _ _ _ _ _ _ _ _ _ _ _ h => h))))))))))))))
theorem xe_8 (hop : ((w).toUInt32 >>> ((16 : Int32).toUInt32 &&& Int32.toUInt32 31)).toInt32 &&& 255 = 8) (hp : ∀ K' : Int32 → St2 → Prop, (∀ r sl1 wl1 dl1 st1 fa1 ri1 si1 so1 ac1 P1 Q1 fc1 cx1 L1 F1 R11 R21 R31 GC1 GO1 W1 H1 SC1 FR1, K r (sl1, wl1, dl1, st1, fa1, ri1, si1, so1, ac1, P1, Q1, fc1, cx1, L1, F1, R11, R21, R31, GC1, GO1, W1, H1, SC1, FR1) → K' r (sl1, wl1, dl1, st1, fa1, ri1, si1, so1, ac1, P1, Q1, fc1, cx1, L1, F1, R11, R21, R31, GC1, GO1, W1, H1, SC1, FR1)) → wpX_push K' (sl, wl, dl, st, fa, ri, si, so, ac, rg_P pa pb pc, rg_P qa qb qc, fc, cx, L, F, R1, R2, R3, GC, GO, W, H, SC, FR)) : wpX_execute K (sl, wl, dl, st, fa, ri, si, so, ac, rg_P pa pb pc, rg_P qa qb qc, fc, cx, L, F, R1, R2, R3, GC, GO, W, H, SC, FR) w :=
  nm_r hop (nm_e (nm_e (br_f (by decide) (br_f (by decide) (br_f (by decide) (br_f (by decide) (br_f (by decide) (br_f (by decide) (br_f (by decide) (br_f (by decide) (br_f (by decide) (br_f (by decide) (br_t rfl (hp _ (fun _ _ _ _ _ _ _ _ _ _ _ _ _ _ _ _ _ _ _ _ _ _ _ _ _ h => h)))))))))))))))
theorem xe_9 (hop : ((w).toUInt32 >>> ((16 : Int32).toUInt32 &&& Int32.toUInt32 31)).toInt32 &&& 255 = 9) (hp : ∀ K' : Int32 → St2 → Prop, (∀ r sl1 wl1 dl1 st1 fa1 ri1 si1 so1 ac1 P1 Q1 fc1 cx1 L1 F1 R11 R21 R31 GC1 GO1 W1 H1 SC1 FR1, K r (sl1, wl1, dl1, st1, fa1, ri1, si1, so1, ac1, P1, Q1, fc1, cx1, L1, F1, R11, R21, R31, GC1, GO1, W1, H1, SC1, FR1) → K' r (sl1, wl1, dl1, st1, fa1, ri1, si1, so1, ac1, P1, Q1, fc1, cx1, L1, F1, R11, R21, R31, GC1, GO1, W1, H1, SC1, FR1)) → wpX_pop K' (sl, wl, dl, st, fa, ri, si, so, ac, rg_P pa pb pc, rg_P qa qb qc, fc, cx, L, F, R1, R2, R3, GC, GO, W, H, SC, FR)) : wpX_execute K (sl, wl, dl, st, fa, ri, si, so, ac, rg_P pa pb pc, rg_P qa qb qc, fc, cx, L, F, R1, R2, R3, GC, GO, W, H, SC, FR) w :=
  nm_r hop (nm_e (nm_e (br_f (by decide) (br_f (by decide) (br_f (by decide) (br_f (by decide) (br_f (by decide) (br_f (by decide) (br_f (by decide) (br_f (by decide) (br_f (by decide) (br_f (by decide) (br_f (by decide) (br_t rfl (hp _ (fun _ _ _ _ _ _ _ _ _ _ _ _ _ _ _ _ _ _ _ _ _ _ _ _ _ h => h))))))))))))))))
theorem xe_13 (hop : ((w).toUInt32 >>> ((16 : Int32).toUInt32 &&& Int32.toUInt32 31)).toInt32 &&& 255 = 13) (hp : ∀ K' : Int32 → St2 → Prop, (∀ r sl1 wl1 dl1 st1 fa1 ri1 si1 so1 ac1 P1 Q1 fc1 cx1 L1 F1 R11 R21 R31 GC1 GO1 W1 H1 SC1 FR1, K r (sl1, wl1, dl1, st1, fa1, ri1, si1, so1, ac1, P1, Q1, fc1, cx1, L1, F1, R11, R21, R31, GC1, GO1, W1, H1, SC1, FR1) → K' r (sl1, wl1, dl1, st1, fa1, ri1, si1, so1, ac1, P1, Q1, fc1, cx1, L1, F1, R11, R21, R31, GC1, GO1, W1, H1, SC1, FR1)) → wpX_returnToCaller K' (sl, wl, dl, st, fa, ri, si, so, ac, rg_P pa pb pc, rg_P qa qb qc, fc, cx, L, F, R1, R2, R3, GC, GO, W, H, SC, FR)) : wpX_execute K (sl, wl, dl, st, fa, ri, si, so, ac, rg_P pa pb pc, rg_P qa qb qc, fc, cx, L, F, R1, R2, R3, GC, GO, W, H, SC, FR) w :=
  nm_r hop (nm_e (nm_e (br_f (by decide) (br_f (by decide) (br_f (by decide) (br_f (by decide) (br_f (by decide) (br_f (by decide) (br_f (by decide) (br_f (by decide) (br_f (by decide) (br_f (by decide) (br_f (by decide) (br_f (by decide) (br_f (by decide) (br_f (by decide) (br_f (by decide) (br_t rfl (hp _ (fun _ _ _ _ _ _ _ _ _ _ _ _ _ _ _ _ _ _ _ _ _ _ _ _ _ h => h))))))))))))))))))))
theorem xe_12 (hop : ((w).toUInt32 >>> ((16 : Int32).toUInt32 &&& Int32.toUInt32 31)).toInt32 &&& 255 = 12) (hp : ∀ K' : Int32 → St2 → Prop, (∀ r sl1 wl1 dl1 st1 fa1 ri1 si1 so1 ac1 P1 Q1 fc1 cx1 L1 F1 R11 R21 R31 GC1 GO1 W1 H1 SC1 FR1, K r (sl1, wl1, dl1, st1, fa1, ri1, si1, so1, ac1, P1, Q1, fc1, cx1, L1, F1, R11, R21, R31, GC1, GO1, W1, H1, SC1, FR1) → K' r (sl1, wl1, dl1, st1, fa1, ri1, si1, so1, ac1, P1, Q1, fc1, cx1, L1, F1, R11, R21, R31, GC1, GO1, W1, H1, SC1, FR1)) → wpX_callSegment K' (sl, wl, dl, st, fa, ri, si, so, ac, rg_P pa pb pc, rg_P qa qb qc, fc, cx, L, F, R1, R2, R3, GC, GO, W, H, SC, FR) (((w).toUInt32 >>> ((8 : Int32).toUInt32 &&& Int32.toUInt32 31)).toInt32 &&& 255) (w &&& 255)) : wpX_execute K (sl, wl, dl, st, fa, ri, si, so, ac, rg_P pa pb pc, rg_P qa qb qc, fc, cx, L, F, R1, R2, R3, GC, GO, W, H, SC, FR) w :=
  nm_r hop (nm_e (nm_e (br_f (by decide) (br_f (by decide) (br_f (by decide) (br_f (by decide) (br_f (by decide) (br_f (by decide) (br_f (by decide) (br_f (by decide) (br_f (by decide) (br_f (by decide) (br_f (by decide) (br_f (by decide) (br_f (by decide) (br_f (by decide) (br_t rfl (hp _ (fun _ _ _ _ _ _ _ _ _ _ _ _ _ _ _ _ _ _ _ _ _ _ _ _ _ h => h)))))))))))))))))))
theorem xe_10 (hop : ((w).toUInt32 >>> ((16 : Int32).toUInt32 &&& Int32.toUInt32 31)).toInt32 &&& 255 = 10) (hp : K 0 (sl, wl, dl, st, fa, ri, si, w &&& 255, ac, rg_P pa pb pc, rg_P qa qb qc, fc, cx, L, F, R1, R2, R3, GC, GO, W, H, SC, FR)) : wpX_execute K (sl, wl, dl, st, fa, ri, si, so, ac, rg_P pa pb pc, rg_P qa qb qc, fc, cx, L, F, R1, R2, R3, GC, GO, W, H, SC, FR) w :=
  nm_r hop (nm_e (nm_e (br_f (by decide) (br_f (by decide) (br_f (by decide) (br_f (by decide) (br_f (by decide) (br_f (by decide) (br_f (by decide) (br_f (by decide) (br_f (by decide) (br_f (by decide) (br_f (by decide) (br_f (by decide) (br_t rfl hp)))))))))))))))
theorem xe_11 (hop : ((w).toUInt32 >>> ((16 : Int32).toUInt32 &&& Int32.toUInt32 31)).toInt32 &&& 255 = 11) (h1 : ac = 0 → K 0 (sl, wl, dl, st, fa, ri, si, w &&& 255, ac, rg_P pa pb pc, rg_P qa qb qc, fc, cx, L, F, R1, R2, R3, GC, GO, W, H, SC, FR)) (h2 : ¬ ac = 0 → K 0 (sl, wl, dl, st, fa, ri, si, so + 1, ac, rg_P pa pb pc, rg_P qa qb qc, fc, cx, L, F, R1, R2, R3, GC, GO, W, H, SC, FR)) : wpX_execute K (sl, wl, dl, st, fa, ri, si, so, ac, rg_P pa pb pc, rg_P qa qb qc, fc, cx, L, F, R1, R2, R3, GC, GO, W, H, SC, FR) w :=
  nm_r hop (nm_e (nm_e (br_f (by decide) (br_f (by decide) (br_f (by decide) (br_f (by decide) (br_f (by decide) (br_f (by decide) (br_f (by decide) (br_f (by decide) (br_f (by decide) (br_f (by decide) (br_f (by decide) (br_f (by decide) (br_f (by decide) (br_t rfl (br_c h1 (fun h => nm_e (h2 h)))))))))))))))))))
theorem xe_d (h0 : ¬ ((w).toUInt32 >>> ((16 : Int32).toUInt32 &&& Int32.toUInt32 31)).toInt32 &&& 255 < 0) (h1 : ¬ ((w).toUInt32 >>> ((16 : Int32).toUInt32 &&& Int32.toUInt32 31)).toInt32 &&& 255 < 1) (h13 : 13 < ((w).toUInt32 >>> ((16 : Int32).toUInt32 &&& Int32.toUInt32 31)).toInt32 &&& 255) (h15 : 15 < ((w).toUInt32 >>> ((16 : Int32).toUInt32 &&& Int32.toUInt32 31)).toInt32 &&& 255) (hp : K 10 (sl, wl, dl, st, fa, ri, si, so, ac, rg_P pa pb pc, rg_P qa qb qc, fc, cx, L, F, R1, R2, R3, GC, GO, W, H, SC, FR)) : wpX_execute K (sl, wl, dl, st, fa, ri, si, so, ac, rg_P pa pb pc, rg_P qa qb qc, fc, cx, L, F, R1, R2, R3, GC, GO, W, H, SC, FR) w :=
  nm_e (nm_e (nm_e (br_f h0 (br_t h13 (x_168 (fun K' hk => xr_d h15 h1 (hk _ _ _ _ _ _ _ _ _ _ _ _ _ _ _ _ _ _ _ _ _ _ _ _ _ hp)))))))
variable {P Q : Int32}
theorem xs_pre (c1 : rg_B 9 sl) (hS : rg_Seg L R1 R2 GC) (b3 : rg_B 256 so) (h1 : ¬ rg_D sl L si → pq 0 (sl, wl, dl, 3, 1, ri, si, so, ac, P, Q, fc, cx, L, F, R1, R2, R3, GC, GO, W, H, SC, FR)) (h2 : rg_D sl L si → L si.toNatClampNeg ≤ so → pq 0 (sl, wl, dl, 3, 2, ri, si, so, ac, P, Q, fc, cx, L, F, R1, R2, R3, GC, GO, W, H, SC, FR)) (h3 : rg_D sl L si → ¬ L si.toNatClampNeg ≤ so → ¬ rg_MX F R1 R2 si ri → pq 0 (sl, wl, dl, 3, 3, ri, si, so, ac, P, Q, fc, cx, L, F, R1, R2, R3, GC, GO, W, H, SC, FR)) (h4 : rg_D sl L si → ¬ L si.toNatClampNeg ≤ so → rg_MX F R1 R2 si ri → ∀ K' : Int32 → St2 → Prop, (∀ r sl1 wl1 dl1 st1 fa1 ri1 si1 so1 ac1 P1 Q1 fc1 cx1 L1 F1 R11 R21 R31 GC1 GO1 W1 H1 SC1 FR1, wX_takeStep_31 pq r sl1 wl1 dl1 st1 fa1 ri1 si1 so1 ac1 P1 Q1 fc1 cx1 L1 F1 R11 R21 R31 GC1 GO1 W1 H1 SC1 FR1 → K' r (sl1, wl1, dl1, st1, fa1, ri1, si1, so1, ac1, P1, Q1, fc1, cx1, L1, F1, R11, R21, R31, GC1, GO1, W1, H1, SC1, FR1)) → wpX_execute K' (sl, wl, dl, st, fa, ri, si, so, ac, P, Q, fc, cx, L, F, R1, R2, R3, GC, GO, W, H, SC, FR) (W (si * 32 + so).toNatClampNeg)) : wpX_takeStep pq (sl, wl, dl, st, fa, ri, si, so, ac, P, Q, fc, cx, L, F, R1, R2, R3, GC, GO, W, H, SC, FR) := by
  unfold wpX_takeStep
  exact xl_fetchFault c1 (fun hd => br_f rg_1 (br_f rg_1 (h1 hd))) (fun hd h => br_f rg_2 (br_f rg_2 (h2 hd h))) (fun hd h hx => br_f rg_3 (br_f rg_3 (h3 hd h hx))) (fun hd h hx => br_t rfl ⟨rg_i32 (rg_D8' c1 hd) (rg_O32 hS _ (rg_Bn b3 (by decide)) h), h4 hd h hx _ (fun _ _ _ _ _ _ _ _ _ _ _ _ _ _ _ _ _ _ _ _ _ _ _ _ _ h => h)⟩)
end
end
section
/-- what holds of a state of the class -/
def pj_I (sl wl dl ri si so pa pb pc qa qb qc fc : Int32) (L F R1 R2 R3 GC H FR : Nat → Int32) : Prop :=
  rg_B 9 sl ∧ rg_B 33 wl ∧ rg_B 17 dl ∧ rg_Seg L R1 R2 GC ∧ (∀ s, rg_B 8 (F s) ∧ rg_B 8 (R3 s)) ∧ rg_Hs H ∧ rg_Fs fc FR ∧ rg_B 8 ri ∧ rg_B 8 si ∧ rg_B 256 so ∧ rg_B 256 pa ∧ rg_B 256 pb ∧ rg_B 8 pc ∧ rg_B 256 qa ∧ rg_B 256 qb ∧ rg_B 8 qc
def pj_V (u : St2) : Prop := ∃ (sl wl dl st fa ri si so ac pa pb pc qa qb qc fc cx : Int32) (L F R1 R2 R3 GC GO W H SC FR : Nat → Int32), u = (sl, wl, dl, st, fa, ri, si, so, ac, rg_P pa pb pc, rg_P qa qb qc, fc, cx, L, F, R1, R2, R3, GC, GO, W, H, SC, FR) ∧ pj_I sl wl dl ri si so pa pb pc qa qb qc fc L F R1 R2 R3 GC H FR
theorem rg_n1 {x : Int32} (h : ¬ x < 1) : ¬ x < 0 := by
  rw [Int32.lt_iff_toInt_lt] at h ⊢
  rw [show (1 : Int32).toInt = 1 from by decide] at h
  rw [show (0 : Int32).toInt = 0 from by decide]
  omega
theorem rg_n1' {x : Int32} (h : ¬ x < 1) : ¬ x ≤ 0 := by
  rw [Int32.lt_iff_toInt_lt] at h
  rw [Int32.le_iff_toInt_le]
  rw [show (1 : Int32).toInt = 1 from by decide] at h
  rw [show (0 : Int32).toInt = 0 from by decide]
  omega
theorem rg_65 {x : Int32} : x < 6 ↔ x ≤ 5 := by
  rw [Int32.lt_iff_toInt_lt, Int32.le_iff_toInt_le, show (6 : Int32).toInt = 6 from by decide, show (5 : Int32).toInt = 5 from by decide]
  omega
theorem rg_B7 {x : Int32} (h0 : ¬ x < 0) (h : ¬ 7 < x) : rg_B 8 x := rg_Ble (n := 8) (y := 7) ⟨7, by decide, rfl⟩ (by decide) h0 (rg_nl.mp h)
theorem rg_SegD {L R1 R2 GC : Nat → Int32} {k : Nat} {l a b : Int32} (hS : rg_Seg L R1 R2 GC) (hl : rg_B 33 l) (ha : rg_B 8 a) (hb : rg_B 8 b) (h : a ≤ b) : rg_Seg (upd L k l) (upd R1 k a) (upd R2 k b) (upd GC k 0) := by
  intro s
  by_cases e : s = k
  · subst e
    rw [pk_us, pk_us, pk_us, pk_us]
    exact ⟨hl, ha, hb, h, rg_B0 (by decide)⟩
  · rw [pk_un e, pk_un e, pk_un e, pk_un e]
    exact hS s
theorem rg_SegG {L R1 R2 GC : Nat → Int32} {k : Nat} {c : Int32} (hS : rg_Seg L R1 R2 GC) (hc : rg_B 5 c) : rg_Seg L R1 R2 (upd GC k c) := by
  intro s
  by_cases e : s = k
  · subst e
    rw [pk_us]
    exact ⟨(hS s).1, (hS s).2.1, (hS s).2.2.1, (hS s).2.2.2.1, hc⟩
  · rw [pk_un e]
    exact hS s
theorem rg_cB {x : Int32} (a b n : Nat) (h : a ≤ b) (hb : b < n) (hn : n < 2 ^ 30) : rg_B n (if nI a ≤ x then (if x ≤ nI b then x else nI b) else nI a) := by
  by_cases h1 : nI a ≤ x
  · rw [if_pos h1]
    by_cases h2 : x ≤ nI b
    · rw [if_pos h2]
      refine rg_Ble (y := nI b) ⟨b, hb, rfl⟩ hn ?_ h2
      exact rg_nl.mpr (Int32.le_trans (nI_pos' (by omega)) h1)
    · rw [if_neg h2]
      exact ⟨b, hb, rfl⟩
  · rw [if_neg h1]
    exact ⟨a, by omega, rfl⟩
theorem rg_P0 : rg_P 0 0 0 = 0 := by decide
theorem rg_Fs0 {FR : Nat → Int32} : rg_Fs 0 FR := ⟨0, by decide, rfl, fun f hf => absurd hf (Nat.not_lt_zero f)⟩
theorem rg_so {L R1 R2 GC : Nat → Int32} {so : Int32} {k : Nat} (hS : rg_Seg L R1 R2 GC) (b3 : rg_B 256 so) (h : ¬ L k ≤ so) : rg_B 256 (so + 1) :=
  rg_Bm (rg_Bs (rg_O32 hS k (rg_Bn b3 (by decide)) h)) (by decide)
theorem rg_Pm {a b c : Int32} (ha : rg_B 256 a) (hb : rg_B 256 b) (hc : rg_B 8 c) : rg_Pt (rg_P a b c) := ⟨a, b, c, ha, hb, hc, rfl⟩
theorem rg_FsC {fc dl si so ri fl P Q n : Int32} {FR : Nat → Int32} (hF : rg_Fs fc FR) (c3 : rg_B 17 dl) (h : fc < dl) (b2 : rg_B 8 si) (b3 : rg_B 32 so) (b1 : rg_B 8 ri) (hfl : rg_B 17 fl) (hP : rg_Pt P) (hQ : rg_Pt Q) : rg_Fs (fc + 1) (rg_fr FR (fc * 6) (si * 256 + so + 1) ri fl P Q n) := by
  obtain ⟨f, hf, rfl, hA⟩ := hF
  have h16 : f < 16 := by
    obtain ⟨d, hd, rfl⟩ := c3
    rw [nI_ltI (by omega) (by omega)] at h
    omega
  refine ⟨f + 1, by omega, nI_1 f, ?_⟩
  have e0 : (nI f * 6 + 0).toNatClampNeg = f * 6 + 0 := rg_c6 (o := 0) h16 (by decide)
  have e1 : (nI f * 6 + 1).toNatClampNeg = f * 6 + 1 := rg_c6 (o := 1) h16 (by decide)
  have e2 : (nI f * 6 + 2).toNatClampNeg = f * 6 + 2 := rg_c6 (o := 2) h16 (by decide)
  have e3 : (nI f * 6 + 3).toNatClampNeg = f * 6 + 3 := rg_c6 (o := 3) h16 (by decide)
  have e4 : (nI f * 6 + 4).toNatClampNeg = f * 6 + 4 := rg_c6 (o := 4) h16 (by decide)
  have e5 : (nI f * 6 + 5).toNatClampNeg = f * 6 + 5 := rg_c6 (o := 5) h16 (by decide)
  unfold rg_fr
  rw [e0, e1, e2, e3, e4, e5]
  intro g hg
  by_cases eg : g = f
  · subst eg
    refine ⟨⟨si, so + 1, b2, rg_Bm (rg_Bs b3) (by decide), ?_⟩, ?_, ?_, ?_, ?_⟩
    · rw [pk_un (by omega), pk_un (by omega), pk_un (by omega), pk_un (by omega), pk_un (by omega), Nat.add_zero, pk_us]
      exact Int32.add_assoc _ _ _
    · rw [pk_un (by omega), pk_un (by omega), pk_un (by omega), pk_un (by omega), pk_us]; exact b1
    · rw [pk_un (by omega), pk_un (by omega), pk_un (by omega), pk_us]; exact hfl
    · rw [pk_un (by omega), pk_un (by omega), pk_us]; exact hP
    · rw [pk_un (by omega), pk_us]; exact hQ
  · have hlt : g < f := by omega
    have hk : ∀ m, m < f * 6 → upd (upd (upd (upd (upd (upd FR (f * 6 + 0) (si * 256 + so + 1)) (f * 6 + 1) ri) (f * 6 + 2) fl) (f * 6 + 3) P) (f * 6 + 4) Q) (f * 6 + 5) n m = FR m := by
      intro m hm
      rw [pk_un (by omega), pk_un (by omega), pk_un (by omega), pk_un (by omega), pk_un (by omega), pk_un (by omega)]
    have h6 := hA g hlt
    unfold rg_F6 at h6 ⊢
    rw [hk (g * 6) (by omega), hk (g * 6 + 1) (by omega), hk (g * 6 + 2) (by omega), hk (g * 6 + 3) (by omega), hk (g * 6 + 4) (by omega)]
    exact h6
theorem rg_FsR {fc : Int32} {FR : Nat → Int32} (hF : rg_Fs fc FR) (h : ¬ fc = 0) : rg_Fs (fc - 1) FR := by
  obtain ⟨f, hf, e1, e2, _, _, hg⟩ := rg_fB hF h
  exact ⟨f, by omega, e2, hg⟩
section
variable {sl wl dl st fa ri si so ac pa pb pc qa qb qc fc cx : Int32} {L F R1 R2 R3 GC GO W H SC FR : Nat → Int32}
theorem pj_mk (h : pj_I sl wl dl ri si so pa pb pc qa qb qc fc L F R1 R2 R3 GC H FR) : pj_V (sl, wl, dl, st, fa, ri, si, so, ac, rg_P pa pb pc, rg_P qa qb qc, fc, cx, L, F, R1, R2, R3, GC, GO, W, H, SC, FR) := ⟨sl, wl, dl, st, fa, ri, si, so, ac, pa, pb, pc, qa, qb, qc, fc, cx, L, F, R1, R2, R3, GC, GO, W, H, SC, FR, rfl, h⟩
end
theorem dt_state {u : St2} (V : pj_V u) (v1 : Int32) : ∃ r : Int32, ∀ q : Int32 → Prop, q r → wpX_state q u v1 := by
  obtain ⟨sl, wl, dl, st, fa, ri, si, so, ac, pa, pb, pc, qa, qb, qc, fc, cx, L, F, R1, R2, R3, GC, GO, W, H, SC, FR, rfl, I⟩ := V
  have V : pj_V (sl, wl, dl, st, fa, ri, si, so, ac, rg_P pa pb pc, rg_P qa qb qc, fc, cx, L, F, R1, R2, R3, GC, GO, W, H, SC, FR) := pj_mk I
  obtain ⟨c1, c2, c3, hS, hA, hH, hF, b1, b2, b3, p1, p2, p3, q1, q2, q3⟩ := I
  by_cases a0 : v1 < 0
  · exact ⟨0, fun q h => br_t a0 h⟩
  by_cases a1 : 8 < v1
  · exact ⟨0, fun q h => br_f a0 (br_t a1 h)⟩
  obtain ⟨j, hj, rfl⟩ := rg_Ble (n := 9) (y := 8) ⟨8, by decide, rfl⟩ (by decide) a0 (rg_nl.mp a1)
  have hc : j = 0 ∨ j = 1 ∨ j = 2 ∨ j = 3 ∨ j = 4 ∨ j = 5 ∨ j = 6 ∨ j = 7 ∨ j = 8 := by omega
  rcases hc with rfl | rfl | rfl | rfl | rfl | rfl | rfl | rfl | rfl
  · exact ⟨st, fun q h => br_f a0 (br_f a1 (br_t rfl h))⟩
  · exact ⟨fa, fun q h => br_f a0 (br_f a1 (br_f (by decide) (br_t rfl h)))⟩
  · exact ⟨ri, fun q h => br_f a0 (br_f a1 (br_f (by decide) (br_f (by decide) (br_t rfl h))))⟩
  · exact ⟨si * 256 + so, fun q h => br_f a0 (br_f a1 (br_f (by decide) (br_f (by decide) (br_f (by decide) (br_t rfl h)))))⟩
  · exact ⟨ac, fun q h => br_f a0 (br_f a1 (br_f (by decide) (br_f (by decide) (br_f (by decide) (br_f (by decide) (br_t rfl h))))))⟩
  · exact ⟨rg_P pa pb pc, fun q h => br_f a0 (br_f a1 (br_f (by decide) (br_f (by decide) (br_f (by decide) (br_f (by decide) (br_f (by decide) (br_t rfl h)))))))⟩
  · exact ⟨rg_P qa qb qc, fun q h => br_f a0 (br_f a1 (br_f (by decide) (br_f (by decide) (br_f (by decide) (br_f (by decide) (br_f (by decide) (br_f (by decide) (br_t rfl h))))))))⟩
  · exact ⟨fc, fun q h => br_f a0 (br_f a1 (br_f (by decide) (br_f (by decide) (br_f (by decide) (br_f (by decide) (br_f (by decide) (br_f (by decide) (br_f (by decide) (br_t rfl h)))))))))⟩
  · exact ⟨cx, fun q h => br_f a0 (br_f a1 (br_f (by decide) (br_f (by decide) (br_f (by decide) (br_f (by decide) (br_f (by decide) (br_f (by decide) (br_f (by decide) (br_f (by decide) (br_t rfl h))))))))))⟩
theorem dt_frame {u : St2} (V : pj_V u) (v1 v2 : Int32) : ∃ r : Int32, ∀ q : Int32 → Prop, q r → wpX_frame q u v1 v2 := by
  obtain ⟨sl, wl, dl, st, fa, ri, si, so, ac, pa, pb, pc, qa, qb, qc, fc, cx, L, F, R1, R2, R3, GC, GO, W, H, SC, FR, rfl, I⟩ := V
  have V : pj_V (sl, wl, dl, st, fa, ri, si, so, ac, rg_P pa pb pc, rg_P qa qb qc, fc, cx, L, F, R1, R2, R3, GC, GO, W, H, SC, FR) := pj_mk I
  obtain ⟨c1, c2, c3, hS, hA, hH, hF, b1, b2, b3, p1, p2, p3, q1, q2, q3⟩ := I
  by_cases a0 : v1 < 0
  · exact ⟨-1, fun q h => br_t a0 h⟩
  by_cases a1 : fc ≤ v1
  · exact ⟨-1, fun q h => br_f a0 (br_t a1 h)⟩
  by_cases a2 : v2 < 0
  · exact ⟨-1, fun q h => br_f a0 (br_f a1 (br_t a2 h))⟩
  by_cases a3 : v2 < 6
  · have hf : rg_B 17 fc := by
      obtain ⟨n, hn, e, _⟩ := hF
      exact ⟨n, hn, e⟩
    have hi := rg_i6 (rg_Bl (n := 16) hf (by decide) a0 (rg_nle.mp a1)) (rg_Bl (n := 6) (y := 6) ⟨6, by decide, rfl⟩ (by decide) a2 a3)
    exact ⟨FR (v1 * 6 + v2).toNatClampNeg, fun q h => br_f a0 (br_f a1 (br_f a2 (br_t a3 ⟨hi, h⟩)))⟩
  · exact ⟨-1, fun q h => br_f a0 (br_f a1 (br_f a2 (br_f a3 h)))⟩
theorem dt_stackHeight {u : St2} (V : pj_V u) (v1 : Int32) : ∃ r : Int32, ∀ q : Int32 → Prop, q r → wpX_stackHeight q u v1 := by
  obtain ⟨sl, wl, dl, st, fa, ri, si, so, ac, pa, pb, pc, qa, qb, qc, fc, cx, L, F, R1, R2, R3, GC, GO, W, H, SC, FR, rfl, I⟩ := V
  have V : pj_V (sl, wl, dl, st, fa, ri, si, so, ac, rg_P pa pb pc, rg_P qa qb qc, fc, cx, L, F, R1, R2, R3, GC, GO, W, H, SC, FR) := pj_mk I
  obtain ⟨c1, c2, c3, hS, hA, hH, hF, b1, b2, b3, p1, p2, p3, q1, q2, q3⟩ := I
  unfold wpX_stackHeight
  by_cases a0 : v1 < 0
  · exact ⟨-1, fun q h => xl_isRing (fun z => absurd a0 z) (fun _ => br_t rfl h)⟩
  by_cases a1 : 7 < v1
  · exact ⟨-1, fun q h => xl_isRing (fun _ z => absurd a1 z) (fun _ => br_t rfl h)⟩
  exact ⟨H v1.toNatClampNeg, fun q h => xl_isRing (fun _ _ => br_f rg_1 ⟨rg_Bin (rg_B7 a0 a1) (by decide), h⟩) (fun z => absurd ⟨a0, a1⟩ z)⟩
theorem dt_stackValue {u : St2} (V : pj_V u) (v1 v2 : Int32) : ∃ r : Int32, ∀ q : Int32 → Prop, q r → wpX_stackValue q u v1 v2 := by
  obtain ⟨sl, wl, dl, st, fa, ri, si, so, ac, pa, pb, pc, qa, qb, qc, fc, cx, L, F, R1, R2, R3, GC, GO, W, H, SC, FR, rfl, I⟩ := V
  have V : pj_V (sl, wl, dl, st, fa, ri, si, so, ac, rg_P pa pb pc, rg_P qa qb qc, fc, cx, L, F, R1, R2, R3, GC, GO, W, H, SC, FR) := pj_mk I
  obtain ⟨c1, c2, c3, hS, hA, hH, hF, b1, b2, b3, p1, p2, p3, q1, q2, q3⟩ := I
  unfold wpX_stackValue
  by_cases a0 : v1 < 0
  · exact ⟨0, fun q h => xl_isRing (fun z => absurd a0 z) (fun _ => br_t rfl h)⟩
  by_cases a1 : 7 < v1
  · exact ⟨0, fun q h => xl_isRing (fun _ z => absurd a1 z) (fun _ => br_t rfl h)⟩
  have h8 := rg_B7 a0 a1
  have hv := rg_Bin h8 (by decide)
  by_cases a2 : v2 < 0
  · exact ⟨0, fun q h => xl_isRing (fun _ _ => br_f rg_1 (br_t a2 h)) (fun z => absurd ⟨a0, a1⟩ z)⟩
  by_cases a3 : v2 < H v1.toNatClampNeg
  · have hi := rg_i16 h8 (rg_Bl (n := 16) (hH v1.toNatClampNeg) (by decide) a2 a3)
    exact ⟨SC (v1 * 16 + v2).toNatClampNeg, fun q h => xl_isRing (fun _ _ => br_f rg_1 (br_f a2 ⟨hv, br_t a3 ⟨hi, h⟩⟩)) (fun z => absurd ⟨a0, a1⟩ z)⟩
  · exact ⟨0, fun q h => xl_isRing (fun _ _ => br_f rg_1 (br_f a2 ⟨hv, br_f a3 h⟩)) (fun z => absurd ⟨a0, a1⟩ z)⟩
theorem dt_peek {u : St2} (V : pj_V u) (v1 v2 : Int32) : ∃ r : Int32, ∀ q : Int32 → Prop, q r → wpX_peek q u v1 v2 := by
  obtain ⟨sl, wl, dl, st, fa, ri, si, so, ac, pa, pb, pc, qa, qb, qc, fc, cx, L, F, R1, R2, R3, GC, GO, W, H, SC, FR, rfl, I⟩ := V
  have V : pj_V (sl, wl, dl, st, fa, ri, si, so, ac, rg_P pa pb pc, rg_P qa qb qc, fc, cx, L, F, R1, R2, R3, GC, GO, W, H, SC, FR) := pj_mk I
  obtain ⟨c1, c2, c3, hS, hA, hH, hF, b1, b2, b3, p1, p2, p3, q1, q2, q3⟩ := I
  unfold wpX_peek
  by_cases hw : rg_W sl L v1 v2
  · exact ⟨W (v1 * 32 + v2).toNatClampNeg, fun q h => xl_isWord c1 (fun _ => br_f rg_1 ⟨rg_WI c1 hS hw, h⟩) (fun z => absurd hw z)⟩
  · exact ⟨0, fun q h => xl_isWord c1 (fun z => absurd z hw) (fun _ => br_t rfl h)⟩
theorem mo_poke {u : St2} (V : pj_V u) (v1 v2 v3 : Int32) : ∃ (r : Int32) (u' : St2), pj_V u' ∧ ∀ q : Int32 → St2 → Prop, q r u' → wpX_poke q u v1 v2 v3 := by
  obtain ⟨sl, wl, dl, st, fa, ri, si, so, ac, pa, pb, pc, qa, qb, qc, fc, cx, L, F, R1, R2, R3, GC, GO, W, H, SC, FR, rfl, I⟩ := V
  have V : pj_V (sl, wl, dl, st, fa, ri, si, so, ac, rg_P pa pb pc, rg_P qa qb qc, fc, cx, L, F, R1, R2, R3, GC, GO, W, H, SC, FR) := pj_mk I
  obtain ⟨c1, c2, c3, hS, hA, hH, hF, b1, b2, b3, p1, p2, p3, q1, q2, q3⟩ := I
  unfold wpX_poke
  by_cases hw : rg_W sl L v1 v2
  · exact ⟨1, (sl, wl, dl, st, fa, ri, si, so, ac, rg_P pa pb pc, rg_P qa qb qc, fc, cx, L, F, R1, R2, R3, GC, GO, upd W (v1 * 32 + v2).toNatClampNeg v3, H, SC, FR), pj_mk ⟨c1, c2, c3, hS, hA, hH, hF, b1, b2, b3, p1, p2, p3, q1, q2, q3⟩, fun q h => xl_isWord c1 (fun _ => br_f rg_1 ⟨rg_WI c1 hS hw, nm_e h⟩) (fun z => absurd hw z)⟩
  · exact ⟨0, (sl, wl, dl, st, fa, ri, si, so, ac, rg_P pa pb pc, rg_P qa qb qc, fc, cx, L, F, R1, R2, R3, GC, GO, W, H, SC, FR), V, fun q h => xl_isWord c1 (fun z => absurd z hw) (fun _ => br_t rfl h)⟩
theorem mo_addGate {u : St2} (V : pj_V u) (v1 v2 : Int32) : ∃ (r : Int32) (u' : St2), pj_V u' ∧ ∀ q : Int32 → St2 → Prop, q r u' → wpX_addGate q u v1 v2 := by
  obtain ⟨sl, wl, dl, st, fa, ri, si, so, ac, pa, pb, pc, qa, qb, qc, fc, cx, L, F, R1, R2, R3, GC, GO, W, H, SC, FR, rfl, I⟩ := V
  have V : pj_V (sl, wl, dl, st, fa, ri, si, so, ac, rg_P pa pb pc, rg_P qa qb qc, fc, cx, L, F, R1, R2, R3, GC, GO, W, H, SC, FR) := pj_mk I
  obtain ⟨c1, c2, c3, hS, hA, hH, hF, b1, b2, b3, p1, p2, p3, q1, q2, q3⟩ := I
  unfold wpX_addGate
  by_cases hw : rg_W sl L v1 v2
  · have hv := rg_DI c1 hw.1
    have h8 := rg_D8' c1 hw.1
    by_cases h4 : 4 ≤ GC v1.toNatClampNeg
    · exact ⟨0, (sl, wl, dl, st, fa, ri, si, so, ac, rg_P pa pb pc, rg_P qa qb qc, fc, cx, L, F, R1, R2, R3, GC, GO, W, H, SC, FR), V, fun q h => xl_isWord c1 (fun _ => br_f rg_1 ⟨hv, nm_e (br_t h4 h)⟩) (fun z => absurd hw z)⟩
    · by_cases hg : rg_G GC GO v1 v2
      · exact ⟨0, (sl, wl, dl, st, fa, ri, si, so, ac, rg_P pa pb pc, rg_P qa qb qc, fc, cx, L, F, R1, R2, R3, GC, GO, W, H, SC, FR), V, fun q h => xl_isWord c1 (fun _ => br_f rg_1 ⟨hv, nm_e (br_f h4 (xl_isGate h8 (hS _).2.2.2.2 (fun _ => br_f rg_1 h) (fun z => absurd hg z)))⟩) (fun z => absurd hw z)⟩
      · have hc : rg_B 4 (GC v1.toNatClampNeg) := rg_Bl (n := 4) (y := 4) ⟨4, by decide, rfl⟩ (by decide) (rg_Bn (hS _).2.2.2.2 (by decide)) (rg_nle.mp h4)
        exact ⟨1, (sl, wl, dl, st, fa, ri, si, so, ac, rg_P pa pb pc, rg_P qa qb qc, fc, cx, L, F, R1, R2, R3, upd GC v1.toNatClampNeg (GC v1.toNatClampNeg + 1), upd GO (v1 * 4 + GC v1.toNatClampNeg).toNatClampNeg v2, W, H, SC, FR), pj_mk ⟨c1, c2, c3, rg_SegG hS (rg_Bs hc), hA, hH, hF, b1, b2, b3, p1, p2, p3, q1, q2, q3⟩, fun q h => xl_isWord c1 (fun _ => br_f rg_1 ⟨hv, nm_e (br_f h4 (xl_isGate h8 (hS _).2.2.2.2 (fun z => absurd z hg) (fun _ => br_t rfl ⟨rg_i4 h8 hc, nm_e ⟨hv, nm_e h⟩⟩)))⟩) (fun z => absurd hw z)⟩
  · exact ⟨0, (sl, wl, dl, st, fa, ri, si, so, ac, rg_P pa pb pc, rg_P qa qb qc, fc, cx, L, F, R1, R2, R3, GC, GO, W, H, SC, FR), V, fun q h => xl_isWord c1 (fun z => absurd z hw) (fun _ => br_t rfl h)⟩
theorem mo_defineSegment {u : St2} (V : pj_V u) (v1 v2 v3 v4 : Int32) : ∃ (r : Int32) (u' : St2), pj_V u' ∧ ∀ q : Int32 → St2 → Prop, q r u' → wpX_defineSegment q u v1 v2 v3 v4 := by
  obtain ⟨sl, wl, dl, st, fa, ri, si, so, ac, pa, pb, pc, qa, qb, qc, fc, cx, L, F, R1, R2, R3, GC, GO, W, H, SC, FR, rfl, I⟩ := V
  have V : pj_V (sl, wl, dl, st, fa, ri, si, so, ac, rg_P pa pb pc, rg_P qa qb qc, fc, cx, L, F, R1, R2, R3, GC, GO, W, H, SC, FR) := pj_mk I
  obtain ⟨c1, c2, c3, hS, hA, hH, hF, b1, b2, b3, p1, p2, p3, q1, q2, q3⟩ := I
  by_cases a0 : v1 < 0
  · exact ⟨0, (sl, wl, dl, st, fa, ri, si, so, ac, rg_P pa pb pc, rg_P qa qb qc, fc, cx, L, F, R1, R2, R3, GC, GO, W, H, SC, FR), V, fun q h => (br_t a0 h)⟩
  by_cases a1 : v1 < sl
  rotate_left
  · exact ⟨0, (sl, wl, dl, st, fa, ri, si, so, ac, rg_P pa pb pc, rg_P qa qb qc, fc, cx, L, F, R1, R2, R3, GC, GO, W, H, SC, FR), V, fun q h => (br_f a0 (br_f a1 h))⟩
  by_cases a2 : v2 < 1
  · exact ⟨0, (sl, wl, dl, st, fa, ri, si, so, ac, rg_P pa pb pc, rg_P qa qb qc, fc, cx, L, F, R1, R2, R3, GC, GO, W, H, SC, FR), V, fun q h => (br_f a0 (br_t a1 (br_t a2 h)))⟩
  by_cases a3 : v2 ≤ wl
  rotate_left
  · exact ⟨0, (sl, wl, dl, st, fa, ri, si, so, ac, rg_P pa pb pc, rg_P qa qb qc, fc, cx, L, F, R1, R2, R3, GC, GO, W, H, SC, FR), V, fun q h => (br_f a0 (br_t a1 (br_f a2 (br_f a3 h))))⟩
  by_cases a4 : v3 < 0
  · exact ⟨0, (sl, wl, dl, st, fa, ri, si, so, ac, rg_P pa pb pc, rg_P qa qb qc, fc, cx, L, F, R1, R2, R3, GC, GO, W, H, SC, FR), V, fun q h => (br_f a0 (br_t a1 (br_f a2 (br_t a3 (br_t a4 h)))))⟩
  by_cases a5 : v3 ≤ 7
  rotate_left
  · exact ⟨0, (sl, wl, dl, st, fa, ri, si, so, ac, rg_P pa pb pc, rg_P qa qb qc, fc, cx, L, F, R1, R2, R3, GC, GO, W, H, SC, FR), V, fun q h => (br_f a0 (br_t a1 (br_f a2 (br_t a3 (br_f a4 (br_f a5 h))))))⟩
  by_cases a6 : v4 < 0
  · exact ⟨0, (sl, wl, dl, st, fa, ri, si, so, ac, rg_P pa pb pc, rg_P qa qb qc, fc, cx, L, F, R1, R2, R3, GC, GO, W, H, SC, FR), V, fun q h => (br_f a0 (br_t a1 (br_f a2 (br_t a3 (br_f a4 (br_t a5 (br_t a6 h)))))))⟩
  by_cases a7 : v4 ≤ 4095
  rotate_left
  · exact ⟨0, (sl, wl, dl, st, fa, ri, si, so, ac, rg_P pa pb pc, rg_P qa qb qc, fc, cx, L, F, R1, R2, R3, GC, GO, W, H, SC, FR), V, fun q h => (br_f a0 (br_t a1 (br_f a2 (br_t a3 (br_f a4 (br_t a5 (br_f a6 (br_f a7 h))))))))⟩
  by_cases a9 : v4 >>> ((4 : Int32) &&& 31) &&& 15 < (v4 &&& 15)
  · exact ⟨0, (sl, wl, dl, st, fa, ri, si, so, ac, rg_P pa pb pc, rg_P qa qb qc, fc, cx, L, F, R1, R2, R3, GC, GO, W, H, SC, FR), V, fun q h => (br_f a0 (br_t a1 (br_f a2 (br_t a3 (br_f a4 (br_t a5 (br_f a6 (br_t a7 (nm_e (nm_e (nm_e (br_t a9 h))))))))))))⟩
  by_cases a10 : v4 >>> ((8 : Int32) &&& 31) &&& 15 < (v4 >>> ((4 : Int32) &&& 31) &&& 15)
  · exact ⟨0, (sl, wl, dl, st, fa, ri, si, so, ac, rg_P pa pb pc, rg_P qa qb qc, fc, cx, L, F, R1, R2, R3, GC, GO, W, H, SC, FR), V, fun q h => (br_f a0 (br_t a1 (br_f a2 (br_t a3 (br_f a4 (br_t a5 (br_f a6 (br_t a7 (nm_e (nm_e (nm_e (br_f a9 (br_t a10 h)))))))))))))⟩
  by_cases a11 : v4 >>> ((8 : Int32) &&& 31) &&& 15 ≤ 7
  rotate_left
  · exact ⟨0, (sl, wl, dl, st, fa, ri, si, so, ac, rg_P pa pb pc, rg_P qa qb qc, fc, cx, L, F, R1, R2, R3, GC, GO, W, H, SC, FR), V, fun q h => (br_f a0 (br_t a1 (br_f a2 (br_t a3 (br_f a4 (br_t a5 (br_f a6 (br_t a7 (nm_e (nm_e (nm_e (br_f a9 (br_f a10 (br_f a11 h))))))))))))))⟩
  have h8 : rg_B 8 v1 := rg_D8 c1 a0 (rg_nle.mpr a1)
  have hv : vp_in v1 8 := rg_Bin h8 (by decide)
  have e1 : v4 &&& 15 ≤ v4 >>> ((4 : Int32) &&& 31) &&& 15 := rg_nl.mp a9
  have e2 : v4 >>> ((4 : Int32) &&& 31) &&& 15 ≤ 7 := Int32.le_trans (rg_nl.mp a10) a11
  have g1 : rg_B 8 (v4 &&& 15) := rg_Ble (n := 8) (y := 7) ⟨7, by decide, rfl⟩ (by decide) (rg_Bn (rg_B15 _) (by decide)) (Int32.le_trans e1 e2)
  have g2 : rg_B 8 (v4 >>> ((4 : Int32) &&& 31) &&& 15) := rg_Ble (n := 8) (y := 7) ⟨7, by decide, rfl⟩ (by decide) (rg_Bn (rg_B15 _) (by decide)) e2
  have g4 : rg_B 8 (v4 >>> ((8 : Int32) &&& 31) &&& 15) := rg_Ble (n := 8) (y := 7) ⟨7, by decide, rfl⟩ (by decide) (rg_Bn (rg_B15 _) (by decide)) a11
  have g5 : rg_B 8 v3 := rg_Ble (n := 8) (y := 7) ⟨7, by decide, rfl⟩ (by decide) a4 a5
  have g3 : rg_B 33 v2 := rg_Ble c2 (by decide) (rg_n1 a2) a3
  have hA1 := rg_au (k := v1.toNatClampNeg) (x := v3) (fun s => (hA s).1) g5
  have hA2 := rg_au (k := v1.toNatClampNeg) (x := v4 >>> ((8 : Int32) &&& 31) &&& 15) (fun s => (hA s).2) g4
  exact ⟨1, (sl, wl, dl, st, fa, ri, si, so, ac, rg_P pa pb pc, rg_P qa qb qc, fc, cx, upd L v1.toNatClampNeg (v2), upd F v1.toNatClampNeg (v3), upd R1 v1.toNatClampNeg (v4 &&& 15), upd R2 v1.toNatClampNeg (v4 >>> ((4 : Int32) &&& 31) &&& 15), upd R3 v1.toNatClampNeg (v4 >>> ((8 : Int32) &&& 31) &&& 15), upd GC v1.toNatClampNeg (0), GO, rg_cl W (v1 * 32) 32, H, SC, FR), pj_mk ⟨c1, c2, c3, rg_SegD hS g3 g1 g2 e1, fun s => ⟨hA1 s, hA2 s⟩, hH, hF, b1, b2, b3, p1, p2, p3, q1, q2, q3⟩, fun q h => (br_f a0 (br_t a1 (br_f a2 (br_t a3 (br_f a4 (br_t a5 (br_f a6 (br_t a7 (nm_e (nm_e (nm_e (br_f a9 (br_f a10 (br_t a11 ⟨hv, nm_e ⟨hv, nm_e ⟨hv, nm_e ⟨hv, nm_e ⟨hv, nm_e ⟨hv, nm_e (xl_clearWords h8 h)⟩⟩⟩⟩⟩⟩))))))))))))))⟩
theorem mo_start {u : St2} (V : pj_V u) (v1 v2 v3 : Int32) : ∃ (r : Int32) (u' : St2), pj_V u' ∧ ∀ q : Int32 → St2 → Prop, q r u' → wpX_start q u v1 v2 v3 := by
  obtain ⟨sl, wl, dl, st, fa, ri, si, so, ac, pa, pb, pc, qa, qb, qc, fc, cx, L, F, R1, R2, R3, GC, GO, W, H, SC, FR, rfl, I⟩ := V
  have V : pj_V (sl, wl, dl, st, fa, ri, si, so, ac, rg_P pa pb pc, rg_P qa qb qc, fc, cx, L, F, R1, R2, R3, GC, GO, W, H, SC, FR) := pj_mk I
  obtain ⟨c1, c2, c3, hS, hA, hH, hF, b1, b2, b3, p1, p2, p3, q1, q2, q3⟩ := I
  by_cases a0 : v1 < 0
  · exact ⟨0, (sl, wl, dl, st, fa, ri, si, so, ac, rg_P pa pb pc, rg_P qa qb qc, fc, cx, L, F, R1, R2, R3, GC, GO, W, H, SC, FR), V, fun q h => (br_t a0 h)⟩
  by_cases a1 : sl ≤ v1
  · exact ⟨0, (sl, wl, dl, st, fa, ri, si, so, ac, rg_P pa pb pc, rg_P qa qb qc, fc, cx, L, F, R1, R2, R3, GC, GO, W, H, SC, FR), V, fun q h => (br_f a0 (br_t a1 h))⟩
  by_cases a2 : v2 < 0
  · exact ⟨0, (sl, wl, dl, st, fa, ri, si, so, ac, rg_P pa pb pc, rg_P qa qb qc, fc, cx, L, F, R1, R2, R3, GC, GO, W, H, SC, FR), V, fun q h => (br_f a0 (br_f a1 (br_t a2 h)))⟩
  by_cases a3 : wl ≤ v2
  · exact ⟨0, (sl, wl, dl, st, fa, ri, si, so, ac, rg_P pa pb pc, rg_P qa qb qc, fc, cx, L, F, R1, R2, R3, GC, GO, W, H, SC, FR), V, fun q h => (br_f a0 (br_f a1 (br_f a2 (br_t a3 h))))⟩
  by_cases a4 : v3 < 0
  · exact ⟨0, (sl, wl, dl, st, fa, ri, si, so, ac, rg_P pa pb pc, rg_P qa qb qc, fc, cx, L, F, R1, R2, R3, GC, GO, W, H, SC, FR), V, fun q h => (br_f a0 (br_f a1 (br_f a2 (br_f a3 (xl_isRing (fun z => absurd a4 z) (fun _ => br_t rfl h))))))⟩
  by_cases a5 : 7 < v3
  · exact ⟨0, (sl, wl, dl, st, fa, ri, si, so, ac, rg_P pa pb pc, rg_P qa qb qc, fc, cx, L, F, R1, R2, R3, GC, GO, W, H, SC, FR), V, fun q h => (br_f a0 (br_f a1 (br_f a2 (br_f a3 (xl_isRing (fun _ z => absurd a5 z) (fun _ => br_t rfl h))))))⟩
  have g := rg_B7 a4 a5
  refine ⟨1, (sl, wl, dl, 1, 0, v3, v1, v2, 0, rg_P 0 0 v3, rg_P 0 0 v3, 0, 0, L, F, R1, R2, R3, GC, GO, W, rg_z H 8, SC, FR), pj_mk ⟨c1, c2, c3, hS, hA, rg_za hH (rg_B0 (by decide)) 8, rg_Fs0, g, rg_D8 c1 a0 a1, rg_Bm (rg_Bl (n := 32) c2 (by decide) a2 (rg_nle.mp a3)) (by decide), rg_B0 (by decide), rg_B0 (by decide), g, rg_B0 (by decide), rg_B0 (by decide), g⟩, fun q h => (br_f a0 (br_f a1 (br_f a2 (br_f a3 (xl_isRing (fun _ _ => br_f rg_1 ?_) (fun z => absurd ⟨a4, a5⟩ z))))))⟩
  unfold wpX_packPointer
  exact xl_emptyStacks h
end
section
theorem lc_cell {p : Int32 → Prop} {LL : Nat} {xs : Nat → Int32} {t : Nat} (hL : LL ≤ 260) (ht : t < 2 ^ 20) (h : ∀ r, p r) : wpL_cell p LL xs () (nI t) :=
  br_c (fun _ => h 0) (fun hn => ⟨vp_in_nI (by
    apply Nat.lt_of_not_le
    intro z
    exact hn (nI_le z (by omega))) (by omega), h _⟩)
theorem lc_mod {p : Int32 → Prop} {a : Int32} {k : Nat} (hk : 0 < k) (hk2 : k < 2 ^ 20) (h : ∀ r, rg_B k r → p r) : wpL_mod p () a (nI k) := by
  have hm : (nI k).toInt = (k : Int) := nI_toInt (by omega)
  have hr := rem_toInt a (nI k)
  rw [hm] at hr
  have hb := tmod_bounds (a := a.toInt) (M := (k : Int)) (by omega)
  refine And.intro (nI_ne0 hk (by omega)) (nm_e (br_c (fun h0 => h _ ?_) (fun h0 => h _ ?_)))
  · have h1 : ¬ (a - a / nI k * nI k) < 0 := rg_nl.mpr h0
    obtain ⟨j, hj, e⟩ := nI_of h1
    refine ⟨j, ?_, e⟩
    rw [e, nI_toInt hj] at hr
    omega
  · have h1 : (a - a / nI k * nI k).toInt < 0 := by
      have h2 := rg_nle.mp h0
      rw [Int32.lt_iff_toInt_lt] at h2
      exact h2
    have h3 : (a - a / nI k * nI k + nI k).toInt = (a - a / nI k * nI k).toInt + k := by
      rw [Int32.toInt_add, hm]
      exact Int.bmod_eq_of_le (by omega) (by omega)
    have h4 : ¬ (a - a / nI k * nI k + nI k) < 0 := by
      rw [Int32.lt_iff_toInt_lt, h3, show (0 : Int32).toInt = 0 from by decide]
      omega
    obtain ⟨j, hj, e⟩ := nI_of h4
    refine ⟨j, ?_, e⟩
    rw [e, nI_toInt hj] at h3
    omega
section
variable {sl wl dl st fa ri si so ac pa pb pc qa qb qc fc cx : Int32} {L F R1 R2 R3 GC GO W H SC FR : Nat → Int32}
variable {post : Int32 → Prop} {LL : Nat} {xs : Nat → Int32} {kc ks : Nat} {x3 x5 x8 x11 : Int32} {J : Int32 → Prop}
variable {J384 : Int32 → Int32 → Int32 → Int32 → Int32 → Int32 → Int32 → Int32 → Int32 → Int32 → Int32 → Int32 → Int32 → Int32 → Int32 → (Nat → Int32) → (Nat → Int32) → (Nat → Int32) → (Nat → Int32) → (Nat → Int32) → (Nat → Int32) → (Nat → Int32) → (Nat → Int32) → (Nat → Int32) → (Nat → Int32) → (Nat → Int32) → Int32 → Int32 → Int32 → Int32 → Int32 → Int32 → Int32 → Int32 → Int32 → Int32 → Int32 → Int32 → Int32 → (Nat → Int32) → (Nat → Int32) → (Nat → Int32) → (Nat → Int32) → (Nat → Int32) → (Nat → Int32) → (Nat → Int32) → (Nat → Int32) → (Nat → Int32) → (Nat → Int32) → (Nat → Int32) → Prop}
theorem lc_1083 (I : pj_I sl wl dl ri si so pa pb pc qa qb qc fc L F R1 R2 R3 GC H FR) (hJ : J (x11 + 1)) : ∀ d i : Nat, i + d = 16 → wL_law_1083 post LL xs J384 J x3 x5 x11 kc ks sl wl dl st fa ri si so ac (rg_P pa pb pc) (rg_P qa qb qc) fc cx L F R1 R2 R3 GC GO W H SC FR sl wl dl st fa ri si so ac (rg_P pa pb pc) (rg_P qa qb qc) fc cx L F R1 R2 R3 GC GO W H SC FR (d + 1) (nI i) := by
  have V : pj_V (sl, wl, dl, st, fa, ri, si, so, ac, rg_P pa pb pc, rg_P qa qb qc, fc, cx, L, F, R1, R2, R3, GC, GO, W, H, SC, FR) := pj_mk I
  intro d
  induction d with
  | zero =>
    intro i hi
    have e : i = 16 := by omega
    subst e
    exact br_t (by decide) (nm_e hJ)
  | succ d ih =>
    intro i hi
    obtain ⟨r, hr⟩ := dt_peek V x11 (nI i)
    exact br_f (nI_ge (b := 16) (by omega) (by decide)) (hr _ (hr _ (br_t rfl (nm_r (nI_1 i) (ih (i + 1) (by omega))))))
theorem lc_1032 (I : pj_I sl wl dl ri si so pa pb pc qa qb qc fc L F R1 R2 R3 GC H FR) (hJ : J (x11 + 1)) : ∀ d i : Nat, i + d = 4 → wL_law_1032 post LL xs J384 J x3 x5 x11 kc ks sl wl dl st fa ri si so ac (rg_P pa pb pc) (rg_P qa qb qc) fc cx L F R1 R2 R3 GC GO W H SC FR sl wl dl st fa ri si so ac (rg_P pa pb pc) (rg_P qa qb qc) fc cx L F R1 R2 R3 GC GO W H SC FR (d + 1) (nI i) := by
  have V : pj_V (sl, wl, dl, st, fa, ri, si, so, ac, rg_P pa pb pc, rg_P qa qb qc, fc, cx, L, F, R1, R2, R3, GC, GO, W, H, SC, FR) := pj_mk I
  intro d
  induction d with
  | zero =>
    intro i hi
    have e : i = 4 := by omega
    subst e
    exact br_t (by decide) (nm_e hJ)
  | succ d ih =>
    intro i hi
    obtain ⟨r, hr⟩ := dt_stackValue V x11 (nI i)
    exact br_f (nI_ge (b := 4) (by omega) (by decide)) (hr _ (hr _ (br_t rfl (nm_r (nI_1 i) (ih (i + 1) (by omega))))))
theorem lc_962 (I : pj_I sl wl dl ri si so pa pb pc qa qb qc fc L F R1 R2 R3 GC H FR) (hJ : J (x11 + 1)) : ∀ d i : Nat, i + d = 6 → wL_law_962 post LL xs J384 J x3 x5 x11 kc ks sl wl dl st fa ri si so ac (rg_P pa pb pc) (rg_P qa qb qc) fc cx L F R1 R2 R3 GC GO W H SC FR sl wl dl st fa ri si so ac (rg_P pa pb pc) (rg_P qa qb qc) fc cx L F R1 R2 R3 GC GO W H SC FR (d + 1) (nI i) := by
  have V : pj_V (sl, wl, dl, st, fa, ri, si, so, ac, rg_P pa pb pc, rg_P qa qb qc, fc, cx, L, F, R1, R2, R3, GC, GO, W, H, SC, FR) := pj_mk I
  intro d
  induction d with
  | zero =>
    intro i hi
    have e : i = 6 := by omega
    subst e
    exact br_t (by decide) (nm_e hJ)
  | succ d ih =>
    intro i hi
    obtain ⟨r, hr⟩ := dt_frame V x11 (nI i)
    exact br_f (nI_ge (b := 6) (by omega) (by decide)) (hr _ (hr _ (br_t rfl (nm_r (nI_1 i) (ih (i + 1) (by omega))))))
theorem lc_1074 {t : Nat} (hL : LL ≤ 260) (ht : t < 2 ^ 20) (I : pj_I sl wl dl ri si so pa pb pc qa qb qc fc L F R1 R2 R3 GC H FR) (hJ : ∀ (y : Int32) (sl' wl' dl' st' fa' ri' si' so' ac' pa' pb' pc' qa' qb' qc' fc' cx' : Int32) (L' F' R1' R2' R3' GC' GO' W' H' SC' FR' : Nat → Int32), (y = nI t ∨ y = nI (t + 1)) → pj_I sl' wl' dl' ri' si' so' pa' pb' pc' qa' qb' qc' fc' L' F' R1' R2' R3' GC' H' FR' → J384 y (x5 + 1) sl' wl' dl' st' fa' ri' si' so' ac' (rg_P pa' pb' pc') (rg_P qa' qb' qc') fc' cx' L' F' R1' R2' R3' GC' GO' W' H' SC' FR' sl' wl' dl' st' fa' ri' si' so' ac' (rg_P pa' pb' pc') (rg_P qa' qb' qc') fc' cx' L' F' R1' R2' R3' GC' GO' W' H' SC' FR') : ∀ d i : Nat, i + d = 4 → wL_law_1074 post LL xs J384 (nI t) x5 kc ks sl wl dl st fa ri si so ac (rg_P pa pb pc) (rg_P qa qb qc) fc cx L F R1 R2 R3 GC GO W H SC FR sl wl dl st fa ri si so ac (rg_P pa pb pc) (rg_P qa qb qc) fc cx L F R1 R2 R3 GC GO W H SC FR (d + 1) (nI i) := by
  have V : pj_V (sl, wl, dl, st, fa, ri, si, so, ac, rg_P pa pb pc, rg_P qa qb qc, fc, cx, L, F, R1, R2, R3, GC, GO, W, H, SC, FR) := pj_mk I
  intro d
  induction d with
  | zero =>
    intro i hi
    have e : i = 4 := by omega
    subst e
    refine br_t (by decide) ?_
    refine br_f (by decide) (br_f (by decide) (br_t rfl ?_))
    by_cases hs : st = 1
    · exact br_t hs (nm_e (hJ _ _ _ _ _ _ _ _ _ _ _ _ _ _ _ _ _ _ _ _ _ _ _ _ _ _ _ _ _ (Or.inl rfl) I))
    · refine br_f hs (nm_r (nI_1 t) (lc_cell hL ht (fun r => ?_)))
      obtain ⟨r1, u1, V1, h1⟩ := mo_start V (r &&& 3) ((r.toUInt32 >>> ((2 : Int32).toUInt32 &&& Int32.toUInt32 31)).toInt32 &&& 3) ((r.toUInt32 >>> ((4 : Int32).toUInt32 &&& Int32.toUInt32 31)).toInt32 &&& 7)
      obtain ⟨sl1, wl1, dl1, st1, fa1, ri1, si1, so1, ac1, pa1, pb1, pc1, qa1, qb1, qc1, fc1, cx1, L1, F1, R11, R21, R31, GC1, GO1, W1, H1, SC1, FR1, rfl, I1⟩ := V1
      exact h1 _ (h1 _ (nm_e (hJ _ _ _ _ _ _ _ _ _ _ _ _ _ _ _ _ _ _ _ _ _ _ _ _ _ _ _ _ _ (Or.inr rfl) I1)))
  | succ d ih =>
    intro i hi
    exact br_f (nI_ge (b := 4) (by omega) (by decide)) ⟨17, lc_1083 I (by rw [nI_1]; exact ih (i + 1) (by omega)) 16 0 rfl⟩
theorem lc_1005 {t : Nat} (hL : LL ≤ 260) (ht : t < 2 ^ 20) (I : pj_I sl wl dl ri si so pa pb pc qa qb qc fc L F R1 R2 R3 GC H FR) (hJ : ∀ (y : Int32) (sl' wl' dl' st' fa' ri' si' so' ac' pa' pb' pc' qa' qb' qc' fc' cx' : Int32) (L' F' R1' R2' R3' GC' GO' W' H' SC' FR' : Nat → Int32), (y = nI t ∨ y = nI (t + 1)) → pj_I sl' wl' dl' ri' si' so' pa' pb' pc' qa' qb' qc' fc' L' F' R1' R2' R3' GC' H' FR' → J384 y (x5 + 1) sl' wl' dl' st' fa' ri' si' so' ac' (rg_P pa' pb' pc') (rg_P qa' qb' qc') fc' cx' L' F' R1' R2' R3' GC' GO' W' H' SC' FR' sl' wl' dl' st' fa' ri' si' so' ac' (rg_P pa' pb' pc') (rg_P qa' qb' qc') fc' cx' L' F' R1' R2' R3' GC' GO' W' H' SC' FR') : ∀ d i : Nat, i + d = 8 → wL_law_1005 post LL xs J384 (nI t) x5 kc ks sl wl dl st fa ri si so ac (rg_P pa pb pc) (rg_P qa qb qc) fc cx L F R1 R2 R3 GC GO W H SC FR sl wl dl st fa ri si so ac (rg_P pa pb pc) (rg_P qa qb qc) fc cx L F R1 R2 R3 GC GO W H SC FR (d + 1) (nI i) := by
  have V : pj_V (sl, wl, dl, st, fa, ri, si, so, ac, rg_P pa pb pc, rg_P qa qb qc, fc, cx, L, F, R1, R2, R3, GC, GO, W, H, SC, FR) := pj_mk I
  intro d
  induction d with
  | zero =>
    intro i hi
    have e : i = 8 := by omega
    subst e
    exact br_t (by decide) ⟨5, lc_1074 hL ht I hJ 4 0 rfl⟩
  | succ d ih =>
    intro i hi
    obtain ⟨r, hr⟩ := dt_stackHeight V (nI i)
    exact br_f (nI_ge (b := 8) (by omega) (by decide)) (hr _ (hr _ (br_t rfl ⟨5, lc_1032 I (by rw [nI_1]; exact ih (i + 1) (by omega)) 4 0 rfl⟩)))
theorem lc_953 {t : Nat} (hL : LL ≤ 260) (ht : t < 2 ^ 20) (I : pj_I sl wl dl ri si so pa pb pc qa qb qc fc L F R1 R2 R3 GC H FR) (hJ : ∀ (y : Int32) (sl' wl' dl' st' fa' ri' si' so' ac' pa' pb' pc' qa' qb' qc' fc' cx' : Int32) (L' F' R1' R2' R3' GC' GO' W' H' SC' FR' : Nat → Int32), (y = nI t ∨ y = nI (t + 1)) → pj_I sl' wl' dl' ri' si' so' pa' pb' pc' qa' qb' qc' fc' L' F' R1' R2' R3' GC' H' FR' → J384 y (x5 + 1) sl' wl' dl' st' fa' ri' si' so' ac' (rg_P pa' pb' pc') (rg_P qa' qb' qc') fc' cx' L' F' R1' R2' R3' GC' GO' W' H' SC' FR' sl' wl' dl' st' fa' ri' si' so' ac' (rg_P pa' pb' pc') (rg_P qa' qb' qc') fc' cx' L' F' R1' R2' R3' GC' GO' W' H' SC' FR') : ∀ d i : Nat, i + d = 4 → wL_law_953 post LL xs J384 (nI t) x5 kc ks sl wl dl st fa ri si so ac (rg_P pa pb pc) (rg_P qa qb qc) fc cx L F R1 R2 R3 GC GO W H SC FR sl wl dl st fa ri si so ac (rg_P pa pb pc) (rg_P qa qb qc) fc cx L F R1 R2 R3 GC GO W H SC FR (d + 1) (nI i) := by
  have V : pj_V (sl, wl, dl, st, fa, ri, si, so, ac, rg_P pa pb pc, rg_P qa qb qc, fc, cx, L, F, R1, R2, R3, GC, GO, W, H, SC, FR) := pj_mk I
  intro d
  induction d with
  | zero =>
    intro i hi
    have e : i = 4 := by omega
    subst e
    exact br_t (by decide) ⟨9, lc_1005 hL ht I hJ 8 0 rfl⟩
  | succ d ih =>
    intro i hi
    exact br_f (nI_ge (b := 4) (by omega) (by decide)) ⟨7, lc_962 I (by rw [nI_1]; exact ih (i + 1) (by omega)) 6 0 rfl⟩
theorem lc_920 {t : Nat} (hL : LL ≤ 260) (ht : t < 2 ^ 20) (I : pj_I sl wl dl ri si so pa pb pc qa qb qc fc L F R1 R2 R3 GC H FR) (hJ : ∀ (y : Int32) (sl' wl' dl' st' fa' ri' si' so' ac' pa' pb' pc' qa' qb' qc' fc' cx' : Int32) (L' F' R1' R2' R3' GC' GO' W' H' SC' FR' : Nat → Int32), (y = nI t ∨ y = nI (t + 1)) → pj_I sl' wl' dl' ri' si' so' pa' pb' pc' qa' qb' qc' fc' L' F' R1' R2' R3' GC' H' FR' → J384 y (x5 + 1) sl' wl' dl' st' fa' ri' si' so' ac' (rg_P pa' pb' pc') (rg_P qa' qb' qc') fc' cx' L' F' R1' R2' R3' GC' GO' W' H' SC' FR' sl' wl' dl' st' fa' ri' si' so' ac' (rg_P pa' pb' pc') (rg_P qa' qb' qc') fc' cx' L' F' R1' R2' R3' GC' GO' W' H' SC' FR') : ∀ d i : Nat, i + d = 9 → wL_law_920 post LL xs J384 (nI t) x5 kc ks sl wl dl st fa ri si so ac (rg_P pa pb pc) (rg_P qa qb qc) fc cx L F R1 R2 R3 GC GO W H SC FR sl wl dl st fa ri si so ac (rg_P pa pb pc) (rg_P qa qb qc) fc cx L F R1 R2 R3 GC GO W H SC FR (d + 1) (nI i) := by
  have V : pj_V (sl, wl, dl, st, fa, ri, si, so, ac, rg_P pa pb pc, rg_P qa qb qc, fc, cx, L, F, R1, R2, R3, GC, GO, W, H, SC, FR) := pj_mk I
  intro d
  induction d with
  | zero =>
    intro i hi
    have e : i = 9 := by omega
    subst e
    exact br_t (by decide) ⟨5, lc_953 hL ht I hJ 4 0 rfl⟩
  | succ d ih =>
    intro i hi
    obtain ⟨r, hr⟩ := dt_state V (nI i)
    exact br_f (nI_nlt (a := 8) (b := i) (by omega) (by decide)) (hr _ (hr _ (br_t rfl (nm_r (nI_1 i) (ih (i + 1) (by omega))))))
theorem lc_908 {t : Nat} (hL : LL ≤ 260) (ht : t < 2 ^ 20) (I : pj_I sl wl dl ri si so pa pb pc qa qb qc fc L F R1 R2 R3 GC H FR) (hJ : ∀ (y : Int32) (sl' wl' dl' st' fa' ri' si' so' ac' pa' pb' pc' qa' qb' qc' fc' cx' : Int32) (L' F' R1' R2' R3' GC' GO' W' H' SC' FR' : Nat → Int32), (y = nI t ∨ y = nI (t + 1)) → pj_I sl' wl' dl' ri' si' so' pa' pb' pc' qa' qb' qc' fc' L' F' R1' R2' R3' GC' H' FR' → J384 y (x5 + 1) sl' wl' dl' st' fa' ri' si' so' ac' (rg_P pa' pb' pc') (rg_P qa' qb' qc') fc' cx' L' F' R1' R2' R3' GC' GO' W' H' SC' FR' sl' wl' dl' st' fa' ri' si' so' ac' (rg_P pa' pb' pc') (rg_P qa' qb' qc') fc' cx' L' F' R1' R2' R3' GC' GO' W' H' SC' FR') : wL_law_908 post LL xs J384 (nI t) x5 x8 x8 kc ks sl wl dl st fa ri si so ac (rg_P pa pb pc) (rg_P qa qb qc) fc cx L F R1 R2 R3 GC GO W H SC FR sl wl dl st fa ri si so ac (rg_P pa pb pc) (rg_P qa qb qc) fc cx L F R1 R2 R3 GC GO W H SC FR :=
  br_t rfl ⟨10, lc_920 hL ht I hJ 9 0 rfl⟩
end
end
section
def pl_885 (post : Int32 → Prop) (LL : Nat) (xs : Nat → Int32) (J384 J457 : Int32 → Int32 → Int32 → Int32 → Int32 → Int32 → Int32 → Int32 → Int32 → Int32 → Int32 → Int32 → Int32 → Int32 → Int32 → (Nat → Int32) → (Nat → Int32) → (Nat → Int32) → (Nat → Int32) → (Nat → Int32) → (Nat → Int32) → (Nat → Int32) → (Nat → Int32) → (Nat → Int32) → (Nat → Int32) → (Nat → Int32) → Int32 → Int32 → Int32 → Int32 → Int32 → Int32 → Int32 → Int32 → Int32 → Int32 → Int32 → Int32 → Int32 → (Nat → Int32) → (Nat → Int32) → (Nat → Int32) → (Nat → Int32) → (Nat → Int32) → (Nat → Int32) → (Nat → Int32) → (Nat → Int32) → (Nat → Int32) → (Nat → Int32) → (Nat → Int32) → Prop) (x3 x5 x8 x9 : Int32) (x10 x11 x25 : Int32) (kc ks : Nat) (u : St2) (bsl bwl bdl bst bfa bri bsi bso bac bP bQ bfc bcx : Int32) (bL bF bR1 bR2 bR3 bGC bGO bW bH bSC bFR : Nat → Int32) : Prop := match u with
  | (sl, wl, dl, st, fa, ri, si, so, ac, P, Q, fc, cx, L, F, R1, R2, R3, GC, GO, W, H, SC, FR) => wL_law_885 post LL xs J384 J457 x3 x5 x8 x9 x10 x11 x25 kc ks sl wl dl st fa ri si so ac P Q fc cx L F R1 R2 R3 GC GO W H SC FR bsl bwl bdl bst bfa bri bsi bso bac bP bQ bfc bcx bL bF bR1 bR2 bR3 bGC bGO bW bH bSC bFR
def pl_634 (post : Int32 → Prop) (LL : Nat) (xs : Nat → Int32) (J384 J457 : Int32 → Int32 → Int32 → Int32 → Int32 → Int32 → Int32 → Int32 → Int32 → Int32 → Int32 → Int32 → Int32 → Int32 → Int32 → (Nat → Int32) → (Nat → Int32) → (Nat → Int32) → (Nat → Int32) → (Nat → Int32) → (Nat → Int32) → (Nat → Int32) → (Nat → Int32) → (Nat → Int32) → (Nat → Int32) → (Nat → Int32) → Int32 → Int32 → Int32 → Int32 → Int32 → Int32 → Int32 → Int32 → Int32 → Int32 → Int32 → Int32 → Int32 → (Nat → Int32) → (Nat → Int32) → (Nat → Int32) → (Nat → Int32) → (Nat → Int32) → (Nat → Int32) → (Nat → Int32) → (Nat → Int32) → (Nat → Int32) → (Nat → Int32) → (Nat → Int32) → Prop) (x3 x5 x8 x9 : Int32) (x10 x11 x12 x13 x16 x18 x19 x22 x23 x24 x25 : Int32) (kc ks : Nat) (u : St2) (bsl bwl bdl bst bfa bri bsi bso bac bP bQ bfc bcx : Int32) (bL bF bR1 bR2 bR3 bGC bGO bW bH bSC bFR : Nat → Int32) : Prop := match u with
  | (sl, wl, dl, st, fa, ri, si, so, ac, P, Q, fc, cx, L, F, R1, R2, R3, GC, GO, W, H, SC, FR) => wL_law_634 post LL xs J384 J457 x3 x5 x8 x9 x10 x11 x12 x13 x16 x18 x19 x22 x23 x24 x25 kc ks sl wl dl st fa ri si so ac P Q fc cx L F R1 R2 R3 GC GO W H SC FR bsl bwl bdl bst bfa bri bsi bso bac bP bQ bfc bcx bL bF bR1 bR2 bR3 bGC bGO bW bH bSC bFR
/-- what the law asks of a completed step -/
def pj_LC (sl ri pa pb pc fc : Int32) (L F R1 R2 FR : Nat → Int32) (w : Int32) (u : St2) : Prop :=
  ∀ (post : Int32 → Prop) (LL : Nat) (xs : Nat → Int32) (J384 J457 : Int32 → Int32 → Int32 → Int32 → Int32 → Int32 → Int32 → Int32 → Int32 → Int32 → Int32 → Int32 → Int32 → Int32 → Int32 → (Nat → Int32) → (Nat → Int32) → (Nat → Int32) → (Nat → Int32) → (Nat → Int32) → (Nat → Int32) → (Nat → Int32) → (Nat → Int32) → (Nat → Int32) → (Nat → Int32) → (Nat → Int32) → Int32 → Int32 → Int32 → Int32 → Int32 → Int32 → Int32 → Int32 → Int32 → Int32 → Int32 → Int32 → Int32 → (Nat → Int32) → (Nat → Int32) → (Nat → Int32) → (Nat → Int32) → (Nat → Int32) → (Nat → Int32) → (Nat → Int32) → (Nat → Int32) → (Nat → Int32) → (Nat → Int32) → (Nat → Int32) → Prop) (x3 x5 x8 x9 : Int32) (x10 x11 x22 x23 x24 : Int32) (kc ks : Nat) (bsl bwl bdl bst bfa bri bsi bso bac bP bQ bfc bcx : Int32) (bL bF bR1 bR2 bR3 bGC bGO bW bH bSC bFR : Nat → Int32),
    (rg_W sl L pa pb → rg_MR F R2 pa (rg_mx ri pc) → ¬ x22 = 0) → (rg_W sl L pa pb → rg_MW F R1 pa (rg_mx ri pc) → ¬ x23 = 0) → (¬ fc = 0 → x24 = FR ((fc - 1) * 6 + 1).toNatClampNeg) →
    pl_885 post LL xs J384 J457 x3 x5 x8 x9 (x10 + 1) x11 1 kc ks u bsl bwl bdl bst bfa bri bsi bso bac bP bQ bfc bcx bL bF bR1 bR2 bR3 bGC bGO bW bH bSC bFR → pl_634 post LL xs J384 J457 x3 x5 x8 x9 x10 x11 ri fc (((w).toUInt32 >>> ((16 : Int32).toUInt32 &&& Int32.toUInt32 31)).toInt32 &&& 255) pa pb x22 x23 x24 1 kc ks u bsl bwl bdl bst bfa bri bsi bso bac bP bQ bfc bcx bL bF bR1 bR2 bR3 bGC bGO bW bH bSC bFR
section
variable {sl wl dl st fa ri si so ac pa pb pc qa qb qc fc cx P Q : Int32} {L F R1 R2 R3 GC GO W H SC FR : Nat → Int32} {p : Int32 → Prop} {s o w : Int32}
variable {post : Int32 → Prop} {LL : Nat} {xs : Nat → Int32} {J384 J457 : Int32 → Int32 → Int32 → Int32 → Int32 → Int32 → Int32 → Int32 → Int32 → Int32 → Int32 → Int32 → Int32 → Int32 → Int32 → (Nat → Int32) → (Nat → Int32) → (Nat → Int32) → (Nat → Int32) → (Nat → Int32) → (Nat → Int32) → (Nat → Int32) → (Nat → Int32) → (Nat → Int32) → (Nat → Int32) → (Nat → Int32) → Int32 → Int32 → Int32 → Int32 → Int32 → Int32 → Int32 → Int32 → Int32 → Int32 → Int32 → Int32 → Int32 → (Nat → Int32) → (Nat → Int32) → (Nat → Int32) → (Nat → Int32) → (Nat → Int32) → (Nat → Int32) → (Nat → Int32) → (Nat → Int32) → (Nat → Int32) → (Nat → Int32) → (Nat → Int32) → Prop} {x3 x5 x8 x9 x10 x11 x12 x13 x16 x18 x19 x22 x23 x24 x25 x26 x27 x28 x29 x31 : Int32} {kc ks : Nat} {bsl bwl bdl bst bfa bri bsi bso bac bP bQ bfc bcx : Int32} {bL bF bR1 bR2 bR3 bGC bGO bW bH bSC bFR : Nat → Int32}
theorem xl_st0 (h : p (st)) : wpX_state p (sl, wl, dl, st, fa, ri, si, so, ac, P, Q, fc, cx, L, F, R1, R2, R3, GC, GO, W, H, SC, FR) 0 := br_f (by decide) (br_f (by decide) (br_t rfl h))
theorem xl_st1 (h : p (fa)) : wpX_state p (sl, wl, dl, st, fa, ri, si, so, ac, P, Q, fc, cx, L, F, R1, R2, R3, GC, GO, W, H, SC, FR) 1 := br_f (by decide) (br_f (by decide) (br_f (by decide) (br_t rfl h)))
theorem xl_st2 (h : p (ri)) : wpX_state p (sl, wl, dl, st, fa, ri, si, so, ac, P, Q, fc, cx, L, F, R1, R2, R3, GC, GO, W, H, SC, FR) 2 := br_f (by decide) (br_f (by decide) (br_f (by decide) (br_f (by decide) (br_t rfl h))))
theorem xl_st3 (h : p (si * 256 + so)) : wpX_state p (sl, wl, dl, st, fa, ri, si, so, ac, P, Q, fc, cx, L, F, R1, R2, R3, GC, GO, W, H, SC, FR) 3 := br_f (by decide) (br_f (by decide) (br_f (by decide) (br_f (by decide) (br_f (by decide) (br_t rfl h)))))
theorem xl_st4 (h : p (ac)) : wpX_state p (sl, wl, dl, st, fa, ri, si, so, ac, P, Q, fc, cx, L, F, R1, R2, R3, GC, GO, W, H, SC, FR) 4 := br_f (by decide) (br_f (by decide) (br_f (by decide) (br_f (by decide) (br_f (by decide) (br_f (by decide) (br_t rfl h))))))
theorem xl_st5 (h : p (P)) : wpX_state p (sl, wl, dl, st, fa, ri, si, so, ac, P, Q, fc, cx, L, F, R1, R2, R3, GC, GO, W, H, SC, FR) 5 := br_f (by decide) (br_f (by decide) (br_f (by decide) (br_f (by decide) (br_f (by decide) (br_f (by decide) (br_f (by decide) (br_t rfl h)))))))
theorem xl_st6 (h : p (Q)) : wpX_state p (sl, wl, dl, st, fa, ri, si, so, ac, P, Q, fc, cx, L, F, R1, R2, R3, GC, GO, W, H, SC, FR) 6 := br_f (by decide) (br_f (by decide) (br_f (by decide) (br_f (by decide) (br_f (by decide) (br_f (by decide) (br_f (by decide) (br_f (by decide) (br_t rfl h))))))))
theorem xl_st7 (h : p (fc)) : wpX_state p (sl, wl, dl, st, fa, ri, si, so, ac, P, Q, fc, cx, L, F, R1, R2, R3, GC, GO, W, H, SC, FR) 7 := br_f (by decide) (br_f (by decide) (br_f (by decide) (br_f (by decide) (br_f (by decide) (br_f (by decide) (br_f (by decide) (br_f (by decide) (br_f (by decide) (br_t rfl h)))))))))
theorem xl_st8 (h : p (cx)) : wpX_state p (sl, wl, dl, st, fa, ri, si, so, ac, P, Q, fc, cx, L, F, R1, R2, R3, GC, GO, W, H, SC, FR) 8 := br_f (by decide) (br_f (by decide) (br_f (by decide) (br_f (by decide) (br_f (by decide) (br_f (by decide) (br_f (by decide) (br_f (by decide) (br_f (by decide) (br_f (by decide) (br_t rfl h))))))))))
theorem xl_peek (c1 : rg_B 9 sl) (hS : rg_Seg L R1 R2 GC) (hw : rg_W sl L s o) (h : p (W (s * 32 + o).toNatClampNeg)) : wpX_peek p (sl, wl, dl, st, fa, ri, si, so, ac, P, Q, fc, cx, L, F, R1, R2, R3, GC, GO, W, H, SC, FR) s o := by
  unfold wpX_peek
  exact xl_isWord c1 (fun _ => br_f rg_1 ⟨rg_WI c1 hS hw, h⟩) (fun z => absurd hw z)
theorem lp_703 (h : x12 ≤ ri) (hp : wL_law_885 post LL xs J384 J457 x3 x5 x8 x9 x10 x11 x25 kc ks sl wl dl st fa ri si so ac P Q fc cx L F R1 R2 R3 GC GO W H SC FR bsl bwl bdl bst bfa bri bsi bso bac bP bQ bfc bcx bL bF bR1 bR2 bR3 bGC bGO bW bH bSC bFR) : wL_law_703 post LL xs J384 J457 x3 x5 x8 x9 x10 x11 x12 x13 x16 x24 x25 kc ks sl wl dl st fa ri si so ac P Q fc cx L F R1 R2 R3 GC GO W H SC FR bsl bwl bdl bst bfa bri bsi bso bac bP bQ bfc bcx bL bF bR1 bR2 bR3 bGC bGO bW bH bSC bFR := by
  unfold wL_law_703
  exact xl_st2 (xl_st7 (br_t h hp))
theorem lp_673 (h7 : ¬ x16 = 7) (h : x12 ≤ ri) (hp : wL_law_885 post LL xs J384 J457 x3 x5 x8 x9 x10 x11 x25 kc ks sl wl dl st fa ri si so ac P Q fc cx L F R1 R2 R3 GC GO W H SC FR bsl bwl bdl bst bfa bri bsi bso bac bP bQ bfc bcx bL bF bR1 bR2 bR3 bGC bGO bW bH bSC bFR) : wL_law_673 post LL xs J384 J457 x3 x5 x8 x9 x10 x11 x12 x13 x16 x18 x19 x23 x24 x25 kc ks sl wl dl st fa ri si so ac P Q fc cx L F R1 R2 R3 GC GO W H SC FR bsl bwl bdl bst bfa bri bsi bso bac bP bQ bfc bcx bL bF bR1 bR2 bR3 bGC bGO bW bH bSC bFR :=
  br_f h7 (lp_703 h hp)
theorem lp_634 (h6 : ¬ x16 = 6) (hp : wL_law_673 post LL xs J384 J457 x3 x5 x8 x9 (x10 + 1) x11 x12 x13 x16 x18 x19 x23 x24 1 kc ks sl wl dl st fa ri si so ac P Q fc cx L F R1 R2 R3 GC GO W H SC FR bsl bwl bdl bst bfa bri bsi bso bac bP bQ bfc bcx bL bF bR1 bR2 bR3 bGC bGO bW bH bSC bFR) : wL_law_634 post LL xs J384 J457 x3 x5 x8 x9 x10 x11 x12 x13 x16 x18 x19 x22 x23 x24 1 kc ks sl wl dl st fa ri si so ac P Q fc cx L F R1 R2 R3 GC GO W H SC FR bsl bwl bdl bst bfa bri bsi bso bac bP bQ bfc bcx bL bF bR1 bR2 bR3 bGC bGO bW bH bSC bFR :=
  br_t rfl (nm_e (br_f h6 hp))
theorem lp_ld (c1 : rg_B 9 sl) (hS : rg_Seg L R1 R2 GC) (hw : rg_W sl L s o) (h22 : ¬ x22 = 0) (e : ac = W (s * 32 + o).toNatClampNeg) (h : x12 ≤ ri) (hp : wL_law_885 post LL xs J384 J457 x3 x5 x8 x9 (x10 + 1) x11 1 kc ks sl wl dl st fa ri si so ac P Q fc cx L F R1 R2 R3 GC GO W H SC FR bsl bwl bdl bst bfa bri bsi bso bac bP bQ bfc bcx bL bF bR1 bR2 bR3 bGC bGO bW bH bSC bFR) : wL_law_634 post LL xs J384 J457 x3 x5 x8 x9 x10 x11 x12 x13 6 s o x22 x23 x24 1 kc ks sl wl dl st fa ri si so ac P Q fc cx L F R1 R2 R3 GC GO W H SC FR bsl bwl bdl bst bfa bri bsi bso bac bP bQ bfc bcx bL bF bR1 bR2 bR3 bGC bGO bW bH bSC bFR :=
  br_t rfl (nm_e (br_t rfl (br_f h22 (xl_st4 (xl_peek c1 hS hw (br_t e (lp_673 (by decide) h hp)))))))
theorem lp_st (c1 : rg_B 9 sl) (hS : rg_Seg L R1 R2 GC) (hw : rg_W sl L s o) (h23 : ¬ x23 = 0) (e : W (s * 32 + o).toNatClampNeg = ac) (h : x12 ≤ ri) (hp : wL_law_885 post LL xs J384 J457 x3 x5 x8 x9 (x10 + 1) x11 1 kc ks sl wl dl st fa ri si so ac P Q fc cx L F R1 R2 R3 GC GO W H SC FR bsl bwl bdl bst bfa bri bsi bso bac bP bQ bfc bcx bL bF bR1 bR2 bR3 bGC bGO bW bH bSC bFR) : wL_law_634 post LL xs J384 J457 x3 x5 x8 x9 x10 x11 x12 x13 7 s o x22 x23 x24 1 kc ks sl wl dl st fa ri si so ac P Q fc cx L F R1 R2 R3 GC GO W H SC FR bsl bwl bdl bst bfa bri bsi bso bac bP bQ bfc bcx bL bF bR1 bR2 bR3 bGC bGO bW bH bSC bFR :=
  lp_634 (by decide) (br_t rfl (br_f h23 (xl_peek c1 hS hw (xl_st4 (br_t e (lp_703 h hp))))))
theorem lp_878 (hp : wL_law_885 post LL xs J384 J457 x3 x5 x8 x9 x10 x11 x25 kc ks sl wl dl st fa ri si so ac P Q fc cx L F R1 R2 R3 GC GO W H SC FR bsl bwl bdl bst bfa bri bsi bso bac bP bQ bfc bcx bL bF bR1 bR2 bR3 bGC bGO bW bH bSC bFR) : wL_law_878 post LL xs J384 J457 x3 x5 x8 x9 x10 x11 x25 1 kc ks sl wl dl st fa ri si so ac P Q fc cx L F R1 R2 R3 GC GO W H SC FR bsl bwl bdl bst bfa bri bsi bso bac bP bQ bfc bcx bL bF bR1 bR2 bR3 bGC bGO bW bH bSC bFR := br_f (by decide) hp
theorem lp_ret (h1 : fc = x13 - 1) (h2 : ri = x24) (hp : wL_law_885 post LL xs J384 J457 x3 x5 x8 x9 (x10 + 1) x11 1 kc ks sl wl dl st fa ri si so ac P Q fc cx L F R1 R2 R3 GC GO W H SC FR bsl bwl bdl bst bfa bri bsi bso bac bP bQ bfc bcx bL bF bR1 bR2 bR3 bGC bGO bW bH bSC bFR) : wL_law_634 post LL xs J384 J457 x3 x5 x8 x9 x10 x11 x12 x13 13 x18 x19 x22 x23 x24 1 kc ks sl wl dl st fa ri si so ac P Q fc cx L F R1 R2 R3 GC GO W H SC FR bsl bwl bdl bst bfa bri bsi bso bac bP bQ bfc bcx bL bF bR1 bR2 bR3 bGC bGO bW bH bSC bFR := by
  refine lp_634 (by decide) (br_f (by decide) ?_)
  by_cases h : x12 ≤ ri
  · exact lp_703 h hp
  · unfold wL_law_703
    exact xl_st2 (xl_st7 (br_f h (br_f (by decide) (br_t rfl (br_t h1 (br_t h2 (lp_878 hp)))))))
theorem xl_gateV {s' : Int32} {i c : Nat} (e : s' = s) (c1 : rg_B 9 sl) (hd : rg_D sl L s) (hc : GC s.toNatClampNeg = nI c) (hc5 : c < 5) (hi : i < c) (h : p (GO (s * 4 + nI i).toNatClampNeg)) : wpX_gate p (sl, wl, dl, st, fa, ri, si, so, ac, P, Q, fc, cx, L, F, R1, R2, R3, GC, GO, W, H, SC, FR) s' (nI i) := by
  subst e
  unfold wpX_gate
  refine xl_isDefined c1 (fun _ => br_f rg_1 (br_f (nI_pos (by omega)) ⟨rg_DI c1 hd, br_t ?_ ⟨rg_i4 (rg_D8' c1 hd) ⟨i, by omega, rfl⟩, h⟩⟩)) (fun z => absurd hd z)
  rw [hc]
  exact nI_lt hi (by omega)
theorem lp_808 {c : Nat} (c1 : rg_B 9 sl) (hd : rg_D sl L s) (hc : GC s.toNatClampNeg = nI c) (hc5 : c < 5) (e1 : x29 / 256 = s) (e2 : x29 - x29 / 256 * 256 = o) (hp : wL_law_885 post LL xs J384 J457 x3 x5 x8 x9 x10 x11 x25 kc ks sl wl dl st fa ri si so ac P Q fc cx L F R1 R2 R3 GC GO W H SC FR bsl bwl bdl bst bfa bri bsi bso bac bP bQ bfc bcx bL bF bR1 bR2 bR3 bGC bGO bW bH bSC bFR) : ∀ (d i : Nat) (x28 : Int32), i + d = c → (x28 = 1 ∨ ∃ j, i ≤ j ∧ j < c ∧ GO (s * 4 + nI j).toNatClampNeg = o) → wL_law_808 post LL xs J384 J457 x3 x5 x8 x9 x10 x11 x13 12 x24 x25 x26 x27 x29 (nI c) kc ks sl wl dl st fa ri si so ac P Q fc cx L F R1 R2 R3 GC GO W H SC FR bsl bwl bdl bst bfa bri bsi bso bac bP bQ bfc bcx bL bF bR1 bR2 bR3 bGC bGO bW bH bSC bFR (d + 1) x28 (nI i) := by
  intro d
  induction d with
  | zero =>
    intro i x28 hi hx
    have h28 : x28 = 1 := hx.elim id (fun ⟨j, h1, h2, _⟩ => absurd h2 (by omega))
    subst h28
    exact br_t (nI_le (by omega) (by omega)) (br_f (by decide) (lp_878 hp))
  | succ d ih =>
    intro i x28 hi hx
    refine br_f (nI_ge (by omega) (by omega)) (br_f (nI_ge (b := 8) (by omega) (by omega)) ⟨by decide, xl_gateV e1 c1 hd hc hc5 (by omega) ⟨by decide, br_c (fun h => nm_r (nI_1 i) (ih (i + 1) 1 (by omega) (Or.inl rfl))) (fun h => nm_r (nI_1 i) (ih (i + 1) x28 (by omega) ?_))⟩⟩)
    rw [e2] at h
    refine hx.imp id ?_
    rintro ⟨j, h1, h2, h3⟩
    refine ⟨j, ?_, h2, h3⟩
    apply Nat.lt_of_le_of_ne h1
    intro e
    subst e
    exact h h3
end
/-- the segment word: its brackets and its gates can be read back -/
theorem rg_sgN {l f a b c g : Nat} (hl : l < 256) (hf : f < 16) (ha : a < 16) (hb : b < 16) (hc : c < 16) (hg : g < 128) : (((nI l ||| nI f <<< ((8 : Int32) &&& 31)) ||| ((nI a <<< ((12 : Int32) &&& 31) ||| nI b <<< ((16 : Int32) &&& 31)) ||| nI c <<< ((20 : Int32) &&& 31))) ||| nI g <<< ((24 : Int32) &&& 31)) = nI (l + f * 256 + a * 4096 + b * 65536 + c * 1048576 + g * 16777216) := by
  rw [pk_shlN (n := f) _ 8 (by decide) (by omega), pk_shlN (n := a) _ 12 (by decide) (by omega), pk_shlN (n := b) _ 16 (by decide) (by omega), pk_shlN (n := c) _ 20 (by decide) (by omega), pk_shlN (n := g) _ 24 (by decide) (by omega)]
  rw [rg_orN, rg_orN, rg_orN, rg_orN, rg_orN]
  have o1 : l ||| f * 2 ^ 8 = l + f * 256 := by
    rw [Nat.or_comm, Nat.mul_comm, ← Nat.two_pow_add_eq_or_of_lt (i := 8) (by omega)]
    omega
  have o2 : a * 2 ^ 12 ||| b * 2 ^ 16 = a * 4096 + b * 65536 := by
    rw [Nat.or_comm, Nat.mul_comm b, ← Nat.two_pow_add_eq_or_of_lt (i := 16) (by omega)]
    omega
  have o3 : (a * 4096 + b * 65536) ||| c * 2 ^ 20 = a * 4096 + b * 65536 + c * 1048576 := by
    rw [Nat.or_comm, Nat.mul_comm c, ← Nat.two_pow_add_eq_or_of_lt (i := 20) (by omega)]
    omega
  have o4 : (l + f * 256) ||| (a * 4096 + b * 65536 + c * 1048576) = l + f * 256 + (a * 4096 + b * 65536 + c * 1048576) := by
    have e : a * 4096 + b * 65536 + c * 1048576 = 2 ^ 12 * (a + b * 16 + c * 256) := by omega
    rw [e, Nat.or_comm, ← Nat.two_pow_add_eq_or_of_lt (i := 12) (by omega)]
    omega
  have o5 : (l + f * 256 + (a * 4096 + b * 65536 + c * 1048576)) ||| g * 2 ^ 24 = l + f * 256 + (a * 4096 + b * 65536 + c * 1048576) + g * 16777216 := by
    rw [Nat.or_comm, Nat.mul_comm g, ← Nat.two_pow_add_eq_or_of_lt (i := 24) (by omega)]
    omega
  rw [o1, o2, o3, o4, o5]
  exact congrArg nI (by omega)
theorem rg_sgR {l f a b c g : Nat} (hl : l < 256) (hf : f < 16) (ha : a < 16) (hb : b < 16) (hc : c < 16) (hg : g < 128) : (nI (l + f * 256 + a * 4096 + b * 65536 + c * 1048576 + g * 16777216) >>> ((16 : Int32) &&& 31)) &&& 15 = nI b := by
  rw [pk_shrN (by omega) _ 16 (by decide), pk_andN (by omega) 4 (by decide)]
  exact congrArg nI (by omega)
theorem rg_sgG {l f a b c g : Nat} (hl : l < 256) (hf : f < 16) (ha : a < 16) (hb : b < 16) (hc : c < 16) (hg : g < 128) : (nI (l + f * 256 + a * 4096 + b * 65536 + c * 1048576 + g * 16777216) >>> ((24 : Int32) &&& 31)) &&& 255 = nI g := by
  rw [pk_shrN (by omega) _ 24 (by decide), pk_andN (by omega) 8 (by decide)]
  exact congrArg nI (by omega)
theorem rg_sgM {n : Nat} (h : n < 2 ^ 31) : ¬ nI n = -1 := by
  intro z
  have h1 : ¬ nI n < 0 := nI_pos h
  rw [z] at h1
  exact h1 (by decide)
section
variable {sl wl dl st fa ri si so ac pa pb pc qa qb qc fc cx P Q : Int32} {L F R1 R2 R3 GC GO W H SC FR : Nat → Int32} {p : Int32 → Prop} {s o w : Int32}
variable {post : Int32 → Prop} {LL : Nat} {xs : Nat → Int32} {J384 J457 : Int32 → Int32 → Int32 → Int32 → Int32 → Int32 → Int32 → Int32 → Int32 → Int32 → Int32 → Int32 → Int32 → Int32 → Int32 → (Nat → Int32) → (Nat → Int32) → (Nat → Int32) → (Nat → Int32) → (Nat → Int32) → (Nat → Int32) → (Nat → Int32) → (Nat → Int32) → (Nat → Int32) → (Nat → Int32) → (Nat → Int32) → Int32 → Int32 → Int32 → Int32 → Int32 → Int32 → Int32 → Int32 → Int32 → Int32 → Int32 → Int32 → Int32 → (Nat → Int32) → (Nat → Int32) → (Nat → Int32) → (Nat → Int32) → (Nat → Int32) → (Nat → Int32) → (Nat → Int32) → (Nat → Int32) → (Nat → Int32) → (Nat → Int32) → (Nat → Int32) → Prop} {x3 x5 x8 x9 x10 x11 x12 x13 x16 x18 x19 x22 x23 x24 x25 x26 x27 x28 x29 x31 : Int32} {kc ks : Nat} {bsl bwl bdl bst bfa bri bsi bso bac bP bQ bfc bcx : Int32} {bL bF bR1 bR2 bR3 bGC bGO bW bH bSC bFR : Nat → Int32}
theorem xl_segV {s' : Int32} (e : s' = s) (c1 : rg_B 9 sl) (hS : rg_Seg L R1 R2 GC) (hA : ∀ s, rg_B 8 (F s) ∧ rg_B 8 (R3 s)) (hd : rg_D sl L s) (h : ∀ r : Int32, ¬ r = -1 → (r >>> ((16 : Int32) &&& 31)) &&& 15 = R2 s.toNatClampNeg → (r >>> ((24 : Int32) &&& 31)) &&& 255 = GC s.toNatClampNeg → p r) : wpX_segment p (sl, wl, dl, st, fa, ri, si, so, ac, P, Q, fc, cx, L, F, R1, R2, R3, GC, GO, W, H, SC, FR) s' := by
  subst e
  unfold wpX_segment
  have hv := rg_DI c1 hd
  refine xl_isDefined c1 (fun _ => br_f rg_1 ⟨hv, hv, hv, nm_e ⟨hv, hv, hv, ?_⟩⟩) (fun z => absurd hd z)
  obtain ⟨⟨l, hl, el⟩, ⟨a, ha, ea⟩, ⟨b, hb, eb⟩, _, ⟨g, hg, eg⟩⟩ := hS s'.toNatClampNeg
  obtain ⟨⟨f, hf, ef⟩, ⟨c, hc, ec⟩⟩ := hA s'.toNatClampNeg
  rw [el, ea, eb, eg, ef, ec, rg_sgN (by omega) (by omega) (by omega) (by omega) (by omega) (by omega)]
  refine h _ (rg_sgM (by omega)) ?_ ?_
  · rw [eb]; exact rg_sgR (by omega) (by omega) (by omega) (by omega) (by omega) (by omega)
  · rw [eg]; exact rg_sgG (by omega) (by omega) (by omega) (by omega) (by omega) (by omega)
theorem xl_frame1 {n : Nat} (hn : n < 16) (h : p (FR (nI n * 6 + 1).toNatClampNeg)) : wpX_frame p (sl, wl, dl, st, fa, ri, si, so, ac, P, Q, nI n + 1, cx, L, F, R1, R2, R3, GC, GO, W, H, SC, FR) (nI n) 1 := by
  refine br_f (nI_pos (by omega)) (br_f ?_ (br_f (by decide) (br_t (by decide) ⟨rg_i6 (o := nI 1) ⟨n, hn, rfl⟩ ⟨1, by decide, rfl⟩, h⟩)))
  rw [nI_1]
  exact nI_ge (by omega) (by omega)
/-- a call that lowered the ring, as the law checks it -/
theorem lp_call {n : Nat} (hn : n < 16) (c1 : rg_B 9 sl) (hS : rg_Seg L R1 R2 GC) (hA : ∀ s, rg_B 8 (F s) ∧ rg_B 8 (R3 s)) (hd : rg_D sl L s) (ho : rg_B 256 o) (hfr : FR (nI n * 6 + 1).toNatClampNeg = x12) (hri : x12 ≤ ri ∨ (ri = R2 s.toNatClampNeg ∧ rg_G GC GO s o)) (hp : wL_law_885 post LL xs J384 J457 x3 x5 x8 x9 (x10 + 1) x11 1 kc ks sl wl dl st fa ri s o ac P Q (nI n + 1) cx L F R1 R2 R3 GC GO W H SC FR bsl bwl bdl bst bfa bri bsi bso bac bP bQ bfc bcx bL bF bR1 bR2 bR3 bGC bGO bW bH bSC bFR) : wL_law_634 post LL xs J384 J457 x3 x5 x8 x9 x10 x11 x12 (nI n) 12 x18 x19 x22 x23 x24 1 kc ks sl wl dl st fa ri s o ac P Q (nI n + 1) cx L F R1 R2 R3 GC GO W H SC FR bsl bwl bdl bst bfa bri bsi bso bac bP bQ bfc bcx bL bF bR1 bR2 bR3 bGC bGO bW bH bSC bFR := by
  refine lp_634 (by decide) (br_f (by decide) ?_)
  by_cases h : x12 ≤ ri
  · exact lp_703 h hp
  · obtain ⟨hr, hg⟩ := hri.elim (fun z => absurd z h) id
    have hs8 := rg_D8' c1 hd
    unfold wL_law_703
    refine xl_st2 (xl_st7 (br_f h (br_t rfl (br_t rfl (xl_frame1 hn (br_t hfr (xl_st3 ⟨by decide, xl_segV (rg_rD hs8 ho) c1 hS hA hd (fun r h1 h2 h3 => br_f h1 (br_t (h2.trans hr.symm) (nm_r h3 ?_)))⟩)))))))
    obtain ⟨c, hc, ec⟩ := (hS s.toNatClampNeg).2.2.2.2
    rw [ec]
    refine ⟨c + 1, lp_808 c1 hd ec hc (rg_rD hs8 ho) (rg_rR hs8 ho) hp c 0 0 (by omega) (Or.inr ?_)⟩
    obtain ⟨j, hj, h4, h5⟩ := hg
    rw [ec, nI_leI (by omega) (by omega)] at h4
    exact ⟨j, by omega, by omega, h5⟩
end
end
section
/-- the outcome of one instruction: a fault code, or a new state that passes the law's check -/
def pj_Ex (sl wl dl st fa ri si so ac pa pb pc qa qb qc fc cx w : Int32) (L F R1 R2 R3 GC GO W H SC FR : Nat → Int32) : Prop :=
  (∃ c : Int32, ¬ c = 0 ∧ (∀ K : Int32 → St2 → Prop, K c (sl, wl, dl, st, fa, ri, si, so, ac, rg_P pa pb pc, rg_P qa qb qc, fc, cx, L, F, R1, R2, R3, GC, GO, W, H, SC, FR) → wpX_execute K (sl, wl, dl, st, fa, ri, si, so, ac, rg_P pa pb pc, rg_P qa qb qc, fc, cx, L, F, R1, R2, R3, GC, GO, W, H, SC, FR) w)) ∨
  (∃ (sl1 wl1 dl1 st1 fa1 ri1 si1 so1 ac1 pa1 pb1 pc1 qa1 qb1 qc1 fc1 : Int32) (L1 F1 R11 R21 R31 GC1 GO1 W1 H1 SC1 FR1 : Nat → Int32), pj_I sl1 wl1 dl1 ri1 si1 so1 pa1 pb1 pc1 qa1 qb1 qc1 fc1 L1 F1 R11 R21 R31 GC1 H1 FR1 ∧ (∀ K : Int32 → St2 → Prop, K 0 (sl1, wl1, dl1, st1, fa1, ri1, si1, so1, ac1, rg_P pa1 pb1 pc1, rg_P qa1 qb1 qc1, fc1, cx, L1, F1, R11, R21, R31, GC1, GO1, W1, H1, SC1, FR1) → wpX_execute K (sl, wl, dl, st, fa, ri, si, so, ac, rg_P pa pb pc, rg_P qa qb qc, fc, cx, L, F, R1, R2, R3, GC, GO, W, H, SC, FR) w) ∧ ∀ c : Int32, pj_LC sl ri pa pb pc fc L F R1 R2 FR w (sl1, wl1, dl1, st1, fa1, ri1, si1, so1, ac1, rg_P pa1 pb1 pc1, rg_P qa1 qb1 qc1, fc1, c, L1, F1, R11, R21, R31, GC1, GO1, W1, H1, SC1, FR1))
theorem rg_fr1 {FR : Nat → Int32} {n : Nat} {ret ri fl P Q k : Int32} (hn : n < 16) : rg_fr FR (nI n * 6) ret ri fl P Q k (nI n * 6 + 1).toNatClampNeg = ri := by
  have e0 : (nI n * 6 + 0).toNatClampNeg = n * 6 + 0 := rg_c6 (o := 0) hn (by decide)
  have e1 : (nI n * 6 + 1).toNatClampNeg = n * 6 + 1 := rg_c6 (o := 1) hn (by decide)
  have e2 : (nI n * 6 + 2).toNatClampNeg = n * 6 + 2 := rg_c6 (o := 2) hn (by decide)
  have e3 : (nI n * 6 + 3).toNatClampNeg = n * 6 + 3 := rg_c6 (o := 3) hn (by decide)
  have e4 : (nI n * 6 + 4).toNatClampNeg = n * 6 + 4 := rg_c6 (o := 4) hn (by decide)
  have e5 : (nI n * 6 + 5).toNatClampNeg = n * 6 + 5 := rg_c6 (o := 5) hn (by decide)
  unfold rg_fr
  rw [e0, e1, e2, e3, e4, e5, pk_un (by omega), pk_un (by omega), pk_un (by omega), pk_un (by omega), pk_us]
theorem rg_enL {L R1 R2 GC GO : Nat → Int32} {ri s o : Int32} (h : ri ≤ R2 s.toNatClampNeg ∨ rg_G GC GO s o) : ri ≤ rg_en R1 R2 ri s ∨ (rg_en R1 R2 ri s = R2 s.toNatClampNeg ∧ rg_G GC GO s o) := by
  unfold rg_en
  by_cases a : R1 s.toNatClampNeg ≤ ri
  · rw [if_pos a]
    by_cases b : ri ≤ R2 s.toNatClampNeg
    · rw [if_pos b]
      exact Or.inl (Int32.le_refl _)
    · rw [if_neg b]
      exact Or.inr ⟨rfl, h.elim (fun z => absurd z b) id⟩
  · rw [if_neg a]
    exact Or.inl (Int32.le_of_lt (rg_nle.mp a))
section
variable {sl wl dl st fa ri si so ac pa pb pc qa qb qc fc cx w : Int32} {L F R1 R2 R3 GC GO W H SC FR : Nat → Int32}
theorem sp_0 (I : pj_I sl wl dl ri si so pa pb pc qa qb qc fc L F R1 R2 R3 GC H FR) (hl : ¬ L si.toNatClampNeg ≤ so) (hop : ((w).toUInt32 >>> ((16 : Int32).toUInt32 &&& Int32.toUInt32 31)).toInt32 &&& 255 = 0) : pj_Ex sl wl dl st fa ri si so ac pa pb pc qa qb qc fc cx w L F R1 R2 R3 GC GO W H SC FR := by
  obtain ⟨c1, c2, c3, hS, hA, hH, hF, b1, b2, b3, p1, p2, p3, q1, q2, q3⟩ := I
  have b3' := rg_so hS b3 hl
  refine Or.inr ⟨sl, wl, dl, 2, fa, ri, si, so, ac, pa, pb, pc, qa, qb, qc, fc, L, F, R1, R2, R3, GC, GO, W, H, SC, FR, ⟨c1, c2, c3, hS, hA, hH, hF, b1, b2, b3, p1, p2, p3, q1, q2, q3⟩, fun K hK => xe_0 hop hK, fun c => ?_⟩
  intro post LL xs J384 J457 x3 x5 x8 x9 x10 x11 x22 x23 x24 kc ks _ _ _ _ _ _ _ _ _ _ _ _ _ _ _ _ _ _ _ _ _ _ _ _ h22 h23 h24 hp
  unfold pl_885 at hp
  unfold pl_634
  rw [hop]
  exact lp_634 (by decide) (lp_673 (by decide) (Int32.le_refl _) hp)
theorem sp_1 (I : pj_I sl wl dl ri si so pa pb pc qa qb qc fc L F R1 R2 R3 GC H FR) (hl : ¬ L si.toNatClampNeg ≤ so) (hop : ((w).toUInt32 >>> ((16 : Int32).toUInt32 &&& Int32.toUInt32 31)).toInt32 &&& 255 = 1) : pj_Ex sl wl dl st fa ri si so ac pa pb pc qa qb qc fc cx w L F R1 R2 R3 GC GO W H SC FR := by
  obtain ⟨c1, c2, c3, hS, hA, hH, hF, b1, b2, b3, p1, p2, p3, q1, q2, q3⟩ := I
  have b3' := rg_so hS b3 hl
  refine Or.inr ⟨sl, wl, dl, st, fa, ri, si, so + 1, w &&& 65535, pa, pb, pc, qa, qb, qc, fc, L, F, R1, R2, R3, GC, GO, W, H, SC, FR, ⟨c1, c2, c3, hS, hA, hH, hF, b1, b2, b3', p1, p2, p3, q1, q2, q3⟩, fun K hK => xe_1 hop (fun K' hk => xr_1  (hk _ _ _ _ _ _ _ _ _ _ _ _ _ _ _ _ _ _ _ _ _ _ _ _ _ hK)), fun c => ?_⟩
  intro post LL xs J384 J457 x3 x5 x8 x9 x10 x11 x22 x23 x24 kc ks _ _ _ _ _ _ _ _ _ _ _ _ _ _ _ _ _ _ _ _ _ _ _ _ h22 h23 h24 hp
  unfold pl_885 at hp
  unfold pl_634
  rw [hop]
  exact lp_634 (by decide) (lp_673 (by decide) (Int32.le_refl _) hp)
theorem sp_2 (I : pj_I sl wl dl ri si so pa pb pc qa qb qc fc L F R1 R2 R3 GC H FR) (hl : ¬ L si.toNatClampNeg ≤ so) (hop : ((w).toUInt32 >>> ((16 : Int32).toUInt32 &&& Int32.toUInt32 31)).toInt32 &&& 255 = 2) : pj_Ex sl wl dl st fa ri si so ac pa pb pc qa qb qc fc cx w L F R1 R2 R3 GC GO W H SC FR := by
  obtain ⟨c1, c2, c3, hS, hA, hH, hF, b1, b2, b3, p1, p2, p3, q1, q2, q3⟩ := I
  have b3' := rg_so hS b3 hl
  refine Or.inr ⟨sl, wl, dl, st, fa, ri, si, so + 1, ac + (w &&& 65535), pa, pb, pc, qa, qb, qc, fc, L, F, R1, R2, R3, GC, GO, W, H, SC, FR, ⟨c1, c2, c3, hS, hA, hH, hF, b1, b2, b3', p1, p2, p3, q1, q2, q3⟩, fun K hK => xe_2 hop (fun K' hk => xr_2  (hk _ _ _ _ _ _ _ _ _ _ _ _ _ _ _ _ _ _ _ _ _ _ _ _ _ hK)), fun c => ?_⟩
  intro post LL xs J384 J457 x3 x5 x8 x9 x10 x11 x22 x23 x24 kc ks _ _ _ _ _ _ _ _ _ _ _ _ _ _ _ _ _ _ _ _ _ _ _ _ h22 h23 h24 hp
  unfold pl_885 at hp
  unfold pl_634
  rw [hop]
  exact lp_634 (by decide) (lp_673 (by decide) (Int32.le_refl _) hp)
theorem sp_3 (I : pj_I sl wl dl ri si so pa pb pc qa qb qc fc L F R1 R2 R3 GC H FR) (hl : ¬ L si.toNatClampNeg ≤ so) (hop : ((w).toUInt32 >>> ((16 : Int32).toUInt32 &&& Int32.toUInt32 31)).toInt32 &&& 255 = 3) : pj_Ex sl wl dl st fa ri si so ac pa pb pc qa qb qc fc cx w L F R1 R2 R3 GC GO W H SC FR := by
  obtain ⟨c1, c2, c3, hS, hA, hH, hF, b1, b2, b3, p1, p2, p3, q1, q2, q3⟩ := I
  have b3' := rg_so hS b3 hl
  refine Or.inr ⟨sl, wl, dl, st, fa, ri, si, so + 1, ac, ((w).toUInt32 >>> ((8 : Int32).toUInt32 &&& Int32.toUInt32 31)).toInt32 &&& 255, w &&& 255, ri, qa, qb, qc, fc, L, F, R1, R2, R3, GC, GO, W, H, SC, FR, ⟨c1, c2, c3, hS, hA, hH, hF, b1, b2, b3', rg_B255 _, rg_B255 _, b1, q1, q2, q3⟩, fun K hK => xe_3 hop (fun K' hk => xr_3  (hk _ _ _ _ _ _ _ _ _ _ _ _ _ _ _ _ _ _ _ _ _ _ _ _ _ hK)), fun c => ?_⟩
  intro post LL xs J384 J457 x3 x5 x8 x9 x10 x11 x22 x23 x24 kc ks _ _ _ _ _ _ _ _ _ _ _ _ _ _ _ _ _ _ _ _ _ _ _ _ h22 h23 h24 hp
  unfold pl_885 at hp
  unfold pl_634
  rw [hop]
  exact lp_634 (by decide) (lp_673 (by decide) (Int32.le_refl _) hp)
theorem sp_4 (I : pj_I sl wl dl ri si so pa pb pc qa qb qc fc L F R1 R2 R3 GC H FR) (hl : ¬ L si.toNatClampNeg ≤ so) (hop : ((w).toUInt32 >>> ((16 : Int32).toUInt32 &&& Int32.toUInt32 31)).toInt32 &&& 255 = 4) : pj_Ex sl wl dl st fa ri si so ac pa pb pc qa qb qc fc cx w L F R1 R2 R3 GC GO W H SC FR := by
  obtain ⟨c1, c2, c3, hS, hA, hH, hF, b1, b2, b3, p1, p2, p3, q1, q2, q3⟩ := I
  have b3' := rg_so hS b3 hl
  refine Or.inr ⟨sl, wl, dl, st, fa, ri, si, so + 1, ac, pa, (pb + (w &&& 255)) &&& 255, pc, qa, qb, qc, fc, L, F, R1, R2, R3, GC, GO, W, H, SC, FR, ⟨c1, c2, c3, hS, hA, hH, hF, b1, b2, b3', p1, rg_B255 _, p3, q1, q2, q3⟩, fun K hK => xe_4 hop (fun K' hk => xr_4 p1 p2 p3 (hk _ _ _ _ _ _ _ _ _ _ _ _ _ _ _ _ _ _ _ _ _ _ _ _ _ hK)), fun c => ?_⟩
  intro post LL xs J384 J457 x3 x5 x8 x9 x10 x11 x22 x23 x24 kc ks _ _ _ _ _ _ _ _ _ _ _ _ _ _ _ _ _ _ _ _ _ _ _ _ h22 h23 h24 hp
  unfold pl_885 at hp
  unfold pl_634
  rw [hop]
  exact lp_634 (by decide) (lp_673 (by decide) (Int32.le_refl _) hp)
theorem sp_5 (I : pj_I sl wl dl ri si so pa pb pc qa qb qc fc L F R1 R2 R3 GC H FR) (hl : ¬ L si.toNatClampNeg ≤ so) (hop : ((w).toUInt32 >>> ((16 : Int32).toUInt32 &&& Int32.toUInt32 31)).toInt32 &&& 255 = 5) : pj_Ex sl wl dl st fa ri si so ac pa pb pc qa qb qc fc cx w L F R1 R2 R3 GC GO W H SC FR := by
  obtain ⟨c1, c2, c3, hS, hA, hH, hF, b1, b2, b3, p1, p2, p3, q1, q2, q3⟩ := I
  have b3' := rg_so hS b3 hl
  refine Or.inr ⟨sl, wl, dl, st, fa, ri, si, so + 1, ac, qa, qb, qc, pa, pb, pc, fc, L, F, R1, R2, R3, GC, GO, W, H, SC, FR, ⟨c1, c2, c3, hS, hA, hH, hF, b1, b2, b3', q1, q2, q3, p1, p2, p3⟩, fun K hK => xe_5 hop (fun K' hk => xr_5  (hk _ _ _ _ _ _ _ _ _ _ _ _ _ _ _ _ _ _ _ _ _ _ _ _ _ hK)), fun c => ?_⟩
  intro post LL xs J384 J457 x3 x5 x8 x9 x10 x11 x22 x23 x24 kc ks _ _ _ _ _ _ _ _ _ _ _ _ _ _ _ _ _ _ _ _ _ _ _ _ h22 h23 h24 hp
  unfold pl_885 at hp
  unfold pl_634
  rw [hop]
  exact lp_634 (by decide) (lp_673 (by decide) (Int32.le_refl _) hp)
theorem sp_14 (I : pj_I sl wl dl ri si so pa pb pc qa qb qc fc L F R1 R2 R3 GC H FR) (hl : ¬ L si.toNatClampNeg ≤ so) (hop : ((w).toUInt32 >>> ((16 : Int32).toUInt32 &&& Int32.toUInt32 31)).toInt32 &&& 255 = 14) : pj_Ex sl wl dl st fa ri si so ac pa pb pc qa qb qc fc cx w L F R1 R2 R3 GC GO W H SC FR := by
  obtain ⟨c1, c2, c3, hS, hA, hH, hF, b1, b2, b3, p1, p2, p3, q1, q2, q3⟩ := I
  have b3' := rg_so hS b3 hl
  refine Or.inr ⟨sl, wl, dl, st, fa, ri, si, so + 1, ri, pa, pb, pc, qa, qb, qc, fc, L, F, R1, R2, R3, GC, GO, W, H, SC, FR, ⟨c1, c2, c3, hS, hA, hH, hF, b1, b2, b3', p1, p2, p3, q1, q2, q3⟩, fun K hK => xe_14 hop (fun K' hk => xr_14  (hk _ _ _ _ _ _ _ _ _ _ _ _ _ _ _ _ _ _ _ _ _ _ _ _ _ hK)), fun c => ?_⟩
  intro post LL xs J384 J457 x3 x5 x8 x9 x10 x11 x22 x23 x24 kc ks _ _ _ _ _ _ _ _ _ _ _ _ _ _ _ _ _ _ _ _ _ _ _ _ h22 h23 h24 hp
  unfold pl_885 at hp
  unfold pl_634
  rw [hop]
  exact lp_634 (by decide) (lp_673 (by decide) (Int32.le_refl _) hp)
theorem sp_15 (I : pj_I sl wl dl ri si so pa pb pc qa qb qc fc L F R1 R2 R3 GC H FR) (hl : ¬ L si.toNatClampNeg ≤ so) (hop : ((w).toUInt32 >>> ((16 : Int32).toUInt32 &&& Int32.toUInt32 31)).toInt32 &&& 255 = 15) : pj_Ex sl wl dl st fa ri si so ac pa pb pc qa qb qc fc cx w L F R1 R2 R3 GC GO W H SC FR := by
  obtain ⟨c1, c2, c3, hS, hA, hH, hF, b1, b2, b3, p1, p2, p3, q1, q2, q3⟩ := I
  have b3' := rg_so hS b3 hl
  refine Or.inr ⟨sl, wl, dl, st, fa, ri, si, so + 1, pc, pa, pb, pc, qa, qb, qc, fc, L, F, R1, R2, R3, GC, GO, W, H, SC, FR, ⟨c1, c2, c3, hS, hA, hH, hF, b1, b2, b3', p1, p2, p3, q1, q2, q3⟩, fun K hK => xe_15 hop (fun K' hk => xr_15 p1 p2 p3 (hk _ _ _ _ _ _ _ _ _ _ _ _ _ _ _ _ _ _ _ _ _ _ _ _ _ hK)), fun c => ?_⟩
  intro post LL xs J384 J457 x3 x5 x8 x9 x10 x11 x22 x23 x24 kc ks _ _ _ _ _ _ _ _ _ _ _ _ _ _ _ _ _ _ _ _ _ _ _ _ h22 h23 h24 hp
  unfold pl_885 at hp
  unfold pl_634
  rw [hop]
  exact lp_634 (by decide) (lp_673 (by decide) (Int32.le_refl _) hp)
theorem sp_10 (I : pj_I sl wl dl ri si so pa pb pc qa qb qc fc L F R1 R2 R3 GC H FR) (hl : ¬ L si.toNatClampNeg ≤ so) (hop : ((w).toUInt32 >>> ((16 : Int32).toUInt32 &&& Int32.toUInt32 31)).toInt32 &&& 255 = 10) : pj_Ex sl wl dl st fa ri si so ac pa pb pc qa qb qc fc cx w L F R1 R2 R3 GC GO W H SC FR := by
  obtain ⟨c1, c2, c3, hS, hA, hH, hF, b1, b2, b3, p1, p2, p3, q1, q2, q3⟩ := I
  have b3' := rg_so hS b3 hl
  refine Or.inr ⟨sl, wl, dl, st, fa, ri, si, w &&& 255, ac, pa, pb, pc, qa, qb, qc, fc, L, F, R1, R2, R3, GC, GO, W, H, SC, FR, ⟨c1, c2, c3, hS, hA, hH, hF, b1, b2, rg_B255 _, p1, p2, p3, q1, q2, q3⟩, fun K hK => xe_10 hop hK, fun c => ?_⟩
  intro post LL xs J384 J457 x3 x5 x8 x9 x10 x11 x22 x23 x24 kc ks _ _ _ _ _ _ _ _ _ _ _ _ _ _ _ _ _ _ _ _ _ _ _ _ h22 h23 h24 hp
  unfold pl_885 at hp
  unfold pl_634
  rw [hop]
  exact lp_634 (by decide) (lp_673 (by decide) (Int32.le_refl _) hp)
theorem sp_11 (I : pj_I sl wl dl ri si so pa pb pc qa qb qc fc L F R1 R2 R3 GC H FR) (hl : ¬ L si.toNatClampNeg ≤ so) (hop : ((w).toUInt32 >>> ((16 : Int32).toUInt32 &&& Int32.toUInt32 31)).toInt32 &&& 255 = 11) : pj_Ex sl wl dl st fa ri si so ac pa pb pc qa qb qc fc cx w L F R1 R2 R3 GC GO W H SC FR := by
  obtain ⟨c1, c2, c3, hS, hA, hH, hF, b1, b2, b3, p1, p2, p3, q1, q2, q3⟩ := I
  have b3' := rg_so hS b3 hl
  by_cases h : ac = 0
  · refine Or.inr ⟨sl, wl, dl, st, fa, ri, si, w &&& 255, ac, pa, pb, pc, qa, qb, qc, fc, L, F, R1, R2, R3, GC, GO, W, H, SC, FR, ⟨c1, c2, c3, hS, hA, hH, hF, b1, b2, rg_B255 _, p1, p2, p3, q1, q2, q3⟩, fun K hK => xe_11 hop (fun _ => hK) (fun z => absurd h z), fun c => ?_⟩
    intro post LL xs J384 J457 x3 x5 x8 x9 x10 x11 x22 x23 x24 kc ks _ _ _ _ _ _ _ _ _ _ _ _ _ _ _ _ _ _ _ _ _ _ _ _ h22 h23 h24 hp
    unfold pl_885 at hp
    unfold pl_634
    rw [hop]
    exact lp_634 (by decide) (lp_673 (by decide) (Int32.le_refl _) hp)
  · refine Or.inr ⟨sl, wl, dl, st, fa, ri, si, so + 1, ac, pa, pb, pc, qa, qb, qc, fc, L, F, R1, R2, R3, GC, GO, W, H, SC, FR, ⟨c1, c2, c3, hS, hA, hH, hF, b1, b2, b3', p1, p2, p3, q1, q2, q3⟩, fun K hK => xe_11 hop (fun z => absurd z h) (fun _ => hK), fun c => ?_⟩
    intro post LL xs J384 J457 x3 x5 x8 x9 x10 x11 x22 x23 x24 kc ks _ _ _ _ _ _ _ _ _ _ _ _ _ _ _ _ _ _ _ _ _ _ _ _ h22 h23 h24 hp
    unfold pl_885 at hp
    unfold pl_634
    rw [hop]
    exact lp_634 (by decide) (lp_673 (by decide) (Int32.le_refl _) hp)
theorem sp_6 (I : pj_I sl wl dl ri si so pa pb pc qa qb qc fc L F R1 R2 R3 GC H FR) (hl : ¬ L si.toNatClampNeg ≤ so) (hop : ((w).toUInt32 >>> ((16 : Int32).toUInt32 &&& Int32.toUInt32 31)).toInt32 &&& 255 = 6) : pj_Ex sl wl dl st fa ri si so ac pa pb pc qa qb qc fc cx w L F R1 R2 R3 GC GO W H SC FR := by
  obtain ⟨c1, c2, c3, hS, hA, hH, hF, b1, b2, b3, p1, p2, p3, q1, q2, q3⟩ := I
  have b3' := rg_so hS b3 hl
  by_cases hd : rg_D sl L pa
  · by_cases hb : L pa.toNatClampNeg ≤ pb
    · exact Or.inl ⟨2, by decide, fun K hK => xe_6 hop (fun K' hk => xl_load c1 hS p1 p2 p3 (fun z => absurd hd z) (fun _ _ => (hk _ _ _ _ _ _ _ _ _ _ _ _ _ _ _ _ _ _ _ _ _ _ _ _ _ hK)) (fun _ z => absurd hb z) (fun _ z => absurd hb z))⟩
    · by_cases hm : rg_MR F R2 pa (rg_mx ri pc)
      · have hw : rg_W sl L pa pb := ⟨hd, rg_Bn p2 (by decide), hb⟩
        refine Or.inr ⟨sl, wl, dl, st, fa, ri, si, so + 1, W (pa * 32 + pb).toNatClampNeg, pa, pb, pc, qa, qb, qc, fc, L, F, R1, R2, R3, GC, GO, W, H, SC, FR, ⟨c1, c2, c3, hS, hA, hH, hF, b1, b2, b3', p1, p2, p3, q1, q2, q3⟩, fun K hK => xe_6 hop (fun K' hk => xl_load c1 hS p1 p2 p3 (fun z => absurd hd z) (fun _ z => absurd z hb) (fun _ _ z => absurd hm z) (fun _ _ _ => (hk _ _ _ _ _ _ _ _ _ _ _ _ _ _ _ _ _ _ _ _ _ _ _ _ _ hK))), fun c => ?_⟩
        intro post LL xs J384 J457 x3 x5 x8 x9 x10 x11 x22 x23 x24 kc ks _ _ _ _ _ _ _ _ _ _ _ _ _ _ _ _ _ _ _ _ _ _ _ _ h22 h23 h24 hp
        unfold pl_885 at hp
        unfold pl_634
        rw [hop]
        exact lp_ld c1 hS hw (h22 hw hm) rfl (Int32.le_refl _) hp
      · exact Or.inl ⟨4, by decide, fun K hK => xe_6 hop (fun K' hk => xl_load c1 hS p1 p2 p3 (fun z => absurd hd z) (fun _ z => absurd z hb) (fun _ _ _ => (hk _ _ _ _ _ _ _ _ _ _ _ _ _ _ _ _ _ _ _ _ _ _ _ _ _ hK)) (fun _ _ z => absurd z hm))⟩
  · exact Or.inl ⟨1, by decide, fun K hK => xe_6 hop (fun K' hk => xl_load c1 hS p1 p2 p3 (fun _ => (hk _ _ _ _ _ _ _ _ _ _ _ _ _ _ _ _ _ _ _ _ _ _ _ _ _ hK)) (fun z => absurd z hd) (fun z => absurd z hd) (fun z => absurd z hd))⟩
theorem sp_7 (I : pj_I sl wl dl ri si so pa pb pc qa qb qc fc L F R1 R2 R3 GC H FR) (hl : ¬ L si.toNatClampNeg ≤ so) (hop : ((w).toUInt32 >>> ((16 : Int32).toUInt32 &&& Int32.toUInt32 31)).toInt32 &&& 255 = 7) : pj_Ex sl wl dl st fa ri si so ac pa pb pc qa qb qc fc cx w L F R1 R2 R3 GC GO W H SC FR := by
  obtain ⟨c1, c2, c3, hS, hA, hH, hF, b1, b2, b3, p1, p2, p3, q1, q2, q3⟩ := I
  have b3' := rg_so hS b3 hl
  by_cases hd : rg_D sl L pa
  · by_cases hb : L pa.toNatClampNeg ≤ pb
    · exact Or.inl ⟨2, by decide, fun K hK => xe_7 hop (fun K' hk => xl_store c1 hS p1 p2 p3 (fun z => absurd hd z) (fun _ _ => (hk _ _ _ _ _ _ _ _ _ _ _ _ _ _ _ _ _ _ _ _ _ _ _ _ _ hK)) (fun _ z => absurd hb z) (fun _ z => absurd hb z))⟩
    · by_cases hm : rg_MW F R1 pa (rg_mx ri pc)
      · have hw : rg_W sl L pa pb := ⟨hd, rg_Bn p2 (by decide), hb⟩
        refine Or.inr ⟨sl, wl, dl, st, fa, ri, si, so + 1, ac, pa, pb, pc, qa, qb, qc, fc, L, F, R1, R2, R3, GC, GO, upd W (pa * 32 + pb).toNatClampNeg ac, H, SC, FR, ⟨c1, c2, c3, hS, hA, hH, hF, b1, b2, b3', p1, p2, p3, q1, q2, q3⟩, fun K hK => xe_7 hop (fun K' hk => xl_store c1 hS p1 p2 p3 (fun z => absurd hd z) (fun _ z => absurd z hb) (fun _ _ z => absurd hm z) (fun _ _ _ => (hk _ _ _ _ _ _ _ _ _ _ _ _ _ _ _ _ _ _ _ _ _ _ _ _ _ hK))), fun c => ?_⟩
        intro post LL xs J384 J457 x3 x5 x8 x9 x10 x11 x22 x23 x24 kc ks _ _ _ _ _ _ _ _ _ _ _ _ _ _ _ _ _ _ _ _ _ _ _ _ h22 h23 h24 hp
        unfold pl_885 at hp
        unfold pl_634
        rw [hop]
        exact lp_st c1 hS hw (h23 hw hm) pk_us (Int32.le_refl _) hp
      · exact Or.inl ⟨5, by decide, fun K hK => xe_7 hop (fun K' hk => xl_store c1 hS p1 p2 p3 (fun z => absurd hd z) (fun _ z => absurd z hb) (fun _ _ _ => (hk _ _ _ _ _ _ _ _ _ _ _ _ _ _ _ _ _ _ _ _ _ _ _ _ _ hK)) (fun _ _ z => absurd z hm))⟩
  · exact Or.inl ⟨1, by decide, fun K hK => xe_7 hop (fun K' hk => xl_store c1 hS p1 p2 p3 (fun _ => (hk _ _ _ _ _ _ _ _ _ _ _ _ _ _ _ _ _ _ _ _ _ _ _ _ _ hK)) (fun z => absurd z hd) (fun z => absurd z hd) (fun z => absurd z hd))⟩
theorem sp_8 (I : pj_I sl wl dl ri si so pa pb pc qa qb qc fc L F R1 R2 R3 GC H FR) (hl : ¬ L si.toNatClampNeg ≤ so) (hop : ((w).toUInt32 >>> ((16 : Int32).toUInt32 &&& Int32.toUInt32 31)).toInt32 &&& 255 = 8) : pj_Ex sl wl dl st fa ri si so ac pa pb pc qa qb qc fc cx w L F R1 R2 R3 GC GO W H SC FR := by
  obtain ⟨c1, c2, c3, hS, hA, hH, hF, b1, b2, b3, p1, p2, p3, q1, q2, q3⟩ := I
  have b3' := rg_so hS b3 hl
  by_cases h : H ri.toNatClampNeg < dl
  · have hh : rg_B 17 (H ri.toNatClampNeg + 1) := rg_Bs (rg_Bl (n := 16) c3 (by decide) (rg_Bn (hH _) (by decide)) h)
    refine Or.inr ⟨sl, wl, dl, st, fa, ri, si, so + 1, ac, pa, pb, pc, qa, qb, qc, fc, L, F, R1, R2, R3, GC, GO, W, upd H ri.toNatClampNeg (H ri.toNatClampNeg + 1), upd SC (ri * 16 + H ri.toNatClampNeg).toNatClampNeg ac, FR, ⟨c1, c2, c3, hS, hA, rg_au hH hh, hF, b1, b2, b3', p1, p2, p3, q1, q2, q3⟩, fun K hK => xe_8 hop (fun K' hk => xl_push b1 c3 hH (fun z => absurd h z) (fun _ => (hk _ _ _ _ _ _ _ _ _ _ _ _ _ _ _ _ _ _ _ _ _ _ _ _ _ hK))), fun c => ?_⟩
    intro post LL xs J384 J457 x3 x5 x8 x9 x10 x11 x22 x23 x24 kc ks _ _ _ _ _ _ _ _ _ _ _ _ _ _ _ _ _ _ _ _ _ _ _ _ h22 h23 h24 hp
    unfold pl_885 at hp
    unfold pl_634
    rw [hop]
    exact lp_634 (by decide) (lp_673 (by decide) (Int32.le_refl _) hp)
  · exact Or.inl ⟨8, by decide, fun K hK => xe_8 hop (fun K' hk => xl_push b1 c3 hH (fun _ => (hk _ _ _ _ _ _ _ _ _ _ _ _ _ _ _ _ _ _ _ _ _ _ _ _ _ hK)) (fun z => absurd z h))⟩
theorem sp_9 (I : pj_I sl wl dl ri si so pa pb pc qa qb qc fc L F R1 R2 R3 GC H FR) (hl : ¬ L si.toNatClampNeg ≤ so) (hop : ((w).toUInt32 >>> ((16 : Int32).toUInt32 &&& Int32.toUInt32 31)).toInt32 &&& 255 = 9) : pj_Ex sl wl dl st fa ri si so ac pa pb pc qa qb qc fc cx w L F R1 R2 R3 GC GO W H SC FR := by
  obtain ⟨c1, c2, c3, hS, hA, hH, hF, b1, b2, b3, p1, p2, p3, q1, q2, q3⟩ := I
  have b3' := rg_so hS b3 hl
  by_cases h : rg_fl fc FR < H ri.toNatClampNeg
  · have hh : rg_B 17 (H ri.toNatClampNeg - 1) := by
      obtain ⟨f, hf, ef⟩ := rg_flB hF
      obtain ⟨t, ht, et⟩ := hH ri.toNatClampNeg
      rw [ef, et, nI_ltI (by omega) (by omega)] at h
      obtain ⟨m, rfl⟩ : ∃ m, t = m + 1 := ⟨t - 1, by omega⟩
      rw [et, nI_pred]
      exact ⟨m, by omega, rfl⟩
    refine Or.inr ⟨sl, wl, dl, st, fa, ri, si, so + 1, SC (ri * 16 + (H ri.toNatClampNeg - 1)).toNatClampNeg, pa, pb, pc, qa, qb, qc, fc, L, F, R1, R2, R3, GC, GO, W, upd H ri.toNatClampNeg (H ri.toNatClampNeg - 1), SC, FR, ⟨c1, c2, c3, hS, hA, rg_au hH hh, hF, b1, b2, b3', p1, p2, p3, q1, q2, q3⟩, fun K hK => xe_9 hop (fun K' hk => xl_pop b1 hH hF (fun z => absurd h z) (fun _ _ => hk _ _ _ _ _ _ _ _ _ _ _ _ _ _ _ _ _ _ _ _ _ _ _ _ _ hK)), fun c => ?_⟩
    intro post LL xs J384 J457 x3 x5 x8 x9 x10 x11 x22 x23 x24 kc ks _ _ _ _ _ _ _ _ _ _ _ _ _ _ _ _ _ _ _ _ _ _ _ _ h22 h23 h24 hp
    unfold pl_885 at hp
    unfold pl_634
    rw [hop]
    exact lp_634 (by decide) (lp_673 (by decide) (Int32.le_refl _) hp)
  · exact Or.inl ⟨8, by decide, fun K hK => xe_9 hop (fun K' hk => xl_pop b1 hH hF (fun _ => hk _ _ _ _ _ _ _ _ _ _ _ _ _ _ _ _ _ _ _ _ _ _ _ _ _ hK) (fun z => absurd z h))⟩
theorem sp_12 (I : pj_I sl wl dl ri si so pa pb pc qa qb qc fc L F R1 R2 R3 GC H FR) (hl : ¬ L si.toNatClampNeg ≤ so) (hop : ((w).toUInt32 >>> ((16 : Int32).toUInt32 &&& Int32.toUInt32 31)).toInt32 &&& 255 = 12) : pj_Ex sl wl dl st fa ri si so ac pa pb pc qa qb qc fc cx w L F R1 R2 R3 GC GO W H SC FR := by
  obtain ⟨c1, c2, c3, hS, hA, hH, hF, b1, b2, b3, p1, p2, p3, q1, q2, q3⟩ := I
  have b3' := rg_so hS b3 hl
  have b32 := rg_O32 hS _ (rg_Bn b3 (by decide)) hl
  by_cases hd : rg_D sl L (((w).toUInt32 >>> ((8 : Int32).toUInt32 &&& Int32.toUInt32 31)).toInt32 &&& 255)
  · by_cases hb : L (((w).toUInt32 >>> ((8 : Int32).toUInt32 &&& Int32.toUInt32 31)).toInt32 &&& 255).toNatClampNeg ≤ w &&& 255
    · exact Or.inl ⟨2, by decide, fun K hK => xe_12 hop (fun K' hk => xl_call c1 hS b1 hF c3 p1 p2 p3 q1 q2 q3 (fun z => absurd hd z) (fun _ _ => (hk _ _ _ _ _ _ _ _ _ _ _ _ _ _ _ _ _ _ _ _ _ _ _ _ _ hK)) (fun _ z => absurd hb z) (fun _ z => absurd hb z) (fun _ z => absurd hb z) (fun _ z => absurd hb z))⟩
    · by_cases hm : rg_MC F R3 (((w).toUInt32 >>> ((8 : Int32).toUInt32 &&& Int32.toUInt32 31)).toInt32 &&& 255) ri
      · by_cases hg : ri ≤ R2 (((w).toUInt32 >>> ((8 : Int32).toUInt32 &&& Int32.toUInt32 31)).toInt32 &&& 255).toNatClampNeg ∨ rg_G GC GO (((w).toUInt32 >>> ((8 : Int32).toUInt32 &&& Int32.toUInt32 31)).toInt32 &&& 255) (w &&& 255)
        · by_cases hf : fc < dl
          · have hF2 := hF
            obtain ⟨n, hn17, rfl, _⟩ := hF2
            have hn : n < 16 := by
              obtain ⟨d, hd2, ed⟩ := c3
              rw [ed, nI_ltI (by omega) (by omega)] at hf
              omega
            refine Or.inr ⟨sl, wl, dl, st, fa, rg_en R1 R2 ri (((w).toUInt32 >>> ((8 : Int32).toUInt32 &&& Int32.toUInt32 31)).toInt32 &&& 255), ((w).toUInt32 >>> ((8 : Int32).toUInt32 &&& Int32.toUInt32 31)).toInt32 &&& 255, w &&& 255, ac, pa, pb, rg_mx ri pc, qa, qb, rg_mx ri qc, nI n + 1, L, F, R1, R2, R3, GC, GO, W, H, SC, rg_fr FR (nI n * 6) (si * 256 + so + 1) ri (H (rg_en R1 R2 ri (((w).toUInt32 >>> ((8 : Int32).toUInt32 &&& Int32.toUInt32 31)).toInt32 &&& 255)).toNatClampNeg) (rg_P pa pb pc) (rg_P qa qb qc) (rg_en R1 R2 ri (((w).toUInt32 >>> ((8 : Int32).toUInt32 &&& Int32.toUInt32 31)).toInt32 &&& 255)), ⟨c1, c2, c3, hS, hA, hH, rg_FsC hF c3 hf b2 b32 b1 (hH _) (rg_Pm p1 p2 p3) (rg_Pm q1 q2 q3), rg_en8 hS b1, rg_D8' c1 hd, rg_B255 _, p1, p2, rg_mx8 b1 p3, q1, q2, rg_mx8 b1 q3⟩, fun K hK => xe_12 hop (fun K' hk => xl_call c1 hS b1 hF c3 p1 p2 p3 q1 q2 q3 (fun z => absurd hd z) (fun _ z => absurd z hb) (fun _ _ z => absurd hm z) (fun _ _ _ y z => absurd (hg.elim (fun t => absurd t y) id) z) (fun _ _ _ _ z => absurd hf z) (fun _ _ _ _ _ => (hk _ _ _ _ _ _ _ _ _ _ _ _ _ _ _ _ _ _ _ _ _ _ _ _ _ hK))), fun c => ?_⟩
            intro post LL xs J384 J457 x3 x5 x8 x9 x10 x11 x22 x23 x24 kc ks _ _ _ _ _ _ _ _ _ _ _ _ _ _ _ _ _ _ _ _ _ _ _ _ h22 h23 h24 hp
            unfold pl_885 at hp
            unfold pl_634
            rw [hop]
            exact lp_call hn c1 hS hA hd (rg_B255 _) (rg_fr1 hn) (rg_enL (L := L) hg) hp
          · exact Or.inl ⟨9, by decide, fun K hK => xe_12 hop (fun K' hk => xl_call c1 hS b1 hF c3 p1 p2 p3 q1 q2 q3 (fun z => absurd hd z) (fun _ z => absurd z hb) (fun _ _ z => absurd hm z) (fun _ _ _ y z => absurd (hg.elim (fun t => absurd t y) id) z) (fun _ _ _ _ _ => (hk _ _ _ _ _ _ _ _ _ _ _ _ _ _ _ _ _ _ _ _ _ _ _ _ _ hK)) (fun _ _ _ _ z => absurd z hf))⟩
        · exact Or.inl ⟨7, by decide, fun K hK => xe_12 hop (fun K' hk => xl_call c1 hS b1 hF c3 p1 p2 p3 q1 q2 q3 (fun z => absurd hd z) (fun _ z => absurd z hb) (fun _ _ z => absurd hm z) (fun _ _ _ _ _ => (hk _ _ _ _ _ _ _ _ _ _ _ _ _ _ _ _ _ _ _ _ _ _ _ _ _ hK)) (fun _ _ _ z => absurd z hg) (fun _ _ _ z => absurd z hg))⟩
      · exact Or.inl ⟨6, by decide, fun K hK => xe_12 hop (fun K' hk => xl_call c1 hS b1 hF c3 p1 p2 p3 q1 q2 q3 (fun z => absurd hd z) (fun _ z => absurd z hb) (fun _ _ _ => (hk _ _ _ _ _ _ _ _ _ _ _ _ _ _ _ _ _ _ _ _ _ _ _ _ _ hK)) (fun _ _ z => absurd z hm) (fun _ _ z => absurd z hm) (fun _ _ z => absurd z hm))⟩
  · exact Or.inl ⟨1, by decide, fun K hK => xe_12 hop (fun K' hk => xl_call c1 hS b1 hF c3 p1 p2 p3 q1 q2 q3 (fun _ => (hk _ _ _ _ _ _ _ _ _ _ _ _ _ _ _ _ _ _ _ _ _ _ _ _ _ hK)) (fun z => absurd z hd) (fun z => absurd z hd) (fun z => absurd z hd) (fun z => absurd z hd) (fun z => absurd z hd))⟩
theorem sp_13 (I : pj_I sl wl dl ri si so pa pb pc qa qb qc fc L F R1 R2 R3 GC H FR) (hl : ¬ L si.toNatClampNeg ≤ so) (hop : ((w).toUInt32 >>> ((16 : Int32).toUInt32 &&& Int32.toUInt32 31)).toInt32 &&& 255 = 13) : pj_Ex sl wl dl st fa ri si so ac pa pb pc qa qb qc fc cx w L F R1 R2 R3 GC GO W H SC FR := by
  obtain ⟨c1, c2, c3, hS, hA, hH, hF, b1, b2, b3, p1, p2, p3, q1, q2, q3⟩ := I
  have b3' := rg_so hS b3 hl
  by_cases h : fc = 0
  · exact Or.inl ⟨9, by decide, fun K hK => xe_13 hop (fun K' hk => xl_ret b1 hF (fun _ => hk _ _ _ _ _ _ _ _ _ _ _ _ _ _ _ _ _ _ _ _ _ _ _ _ _ hK) (fun z => absurd h z))⟩
  · obtain ⟨f, hf, e1, e2, h6, hc, hg⟩ := rg_fB hF h
    obtain ⟨⟨a, b, ha, hb, hr⟩, g1, g2, ⟨pa1, pb1, pc1, u1, u2, u3, eP⟩, ⟨qa1, qb1, qc1, w1, w2, w3, eQ⟩⟩ := h6
    have k0 : FR ((fc - 1) * 6 + 0).toNatClampNeg = a * 256 + b := (congrArg FR (hc 0 (by decide))).trans hr
    have k1 : rg_B 8 (FR ((fc - 1) * 6 + 1).toNatClampNeg) := by
      have e := hc 1 (by decide)
      rw [show (nI 1) = 1 from rfl] at e
      rw [e]; exact g1
    have k2 : rg_B 17 (FR ((fc - 1) * 6 + 2).toNatClampNeg) := by
      have e := hc 2 (by decide)
      rw [show (nI 2) = 2 from rfl] at e
      rw [e]; exact g2
    have k3 : FR ((fc - 1) * 6 + 3).toNatClampNeg = rg_P pa1 pb1 pc1 := (congrArg FR (hc 3 (by decide))).trans eP
    have k4 : FR ((fc - 1) * 6 + 4).toNatClampNeg = rg_P qa1 qb1 qc1 := (congrArg FR (hc 4 (by decide))).trans eQ
    have hx : ∀ K : Int32 → St2 → Prop, K 0 (sl, wl, dl, st, fa, FR ((fc - 1) * 6 + 1).toNatClampNeg, a, b, ac, rg_P pa1 pb1 pc1, rg_P qa1 qb1 qc1, fc - 1, cx, L, F, R1, R2, R3, GC, GO, W, upd H ri.toNatClampNeg (FR ((fc - 1) * 6 + 2).toNatClampNeg), SC, FR) → wpX_execute K (sl, wl, dl, st, fa, ri, si, so, ac, rg_P pa pb pc, rg_P qa qb qc, fc, cx, L, F, R1, R2, R3, GC, GO, W, H, SC, FR) w := by
      intro K hK
      refine xe_13 hop (fun K' hk => xl_ret b1 hF (fun z => absurd z h) (fun _ => ?_))
      rw [k0, rg_rR ha hb, rg_rD ha hb, k3, k4]
      exact hk _ _ _ _ _ _ _ _ _ _ _ _ _ _ _ _ _ _ _ _ _ _ _ _ _ hK
    refine Or.inr ⟨sl, wl, dl, st, fa, FR ((fc - 1) * 6 + 1).toNatClampNeg, a, b, ac, pa1, pb1, pc1, qa1, qb1, qc1, fc - 1, L, F, R1, R2, R3, GC, GO, W, upd H ri.toNatClampNeg (FR ((fc - 1) * 6 + 2).toNatClampNeg), SC, FR, ⟨c1, c2, c3, hS, hA, rg_au hH k2, rg_FsR hF h, k1, ha, hb, u1, u2, u3, w1, w2, w3⟩, fun K hK => hx K hK, fun c => ?_⟩
    intro post LL xs J384 J457 x3 x5 x8 x9 x10 x11 x22 x23 x24 kc ks _ _ _ _ _ _ _ _ _ _ _ _ _ _ _ _ _ _ _ _ _ _ _ _ h22 h23 h24 hp
    unfold pl_885 at hp
    unfold pl_634
    rw [hop]
    exact lp_ret rfl (h24 h).symm hp
theorem sp_d (I : pj_I sl wl dl ri si so pa pb pc qa qb qc fc L F R1 R2 R3 GC H FR) (hl : ¬ L si.toNatClampNeg ≤ so) (n : Nat) (hn : 15 < n) (hn2 : n < 256) (hop : ((w).toUInt32 >>> ((16 : Int32).toUInt32 &&& Int32.toUInt32 31)).toInt32 &&& 255 = nI n) : pj_Ex sl wl dl st fa ri si so ac pa pb pc qa qb qc fc cx w L F R1 R2 R3 GC GO W H SC FR := by
  have h15 : (15 : Int32) < nI n := nI_lt (a := 15) hn (by omega)
  have h13 : (13 : Int32) < nI n := nI_lt (a := 13) (by omega) (by omega)
  have h1 : ¬ nI n < (1 : Int32) := nI_nlt (b := 1) (by omega) (by omega)
  have h0 : ¬ nI n < (0 : Int32) := nI_pos (by omega)
  exact Or.inl ⟨10, by decide, fun K hK => xe_d (by rw [hop]; exact h0) (by rw [hop]; exact h1) (by rw [hop]; exact h13) (by rw [hop]; exact h15) hK⟩
theorem sp_all (I : pj_I sl wl dl ri si so pa pb pc qa qb qc fc L F R1 R2 R3 GC H FR) (hl : ¬ L si.toNatClampNeg ≤ so) : pj_Ex sl wl dl st fa ri si so ac pa pb pc qa qb qc fc cx w L F R1 R2 R3 GC GO W H SC FR := by
  obtain ⟨n, hn, hop⟩ := rg_B255 ((w.toUInt32 >>> ((16 : Int32).toUInt32 &&& Int32.toUInt32 31)).toInt32)
  have hc : n = 0 ∨ n = 1 ∨ n = 2 ∨ n = 3 ∨ n = 4 ∨ n = 5 ∨ n = 6 ∨ n = 7 ∨ n = 8 ∨ n = 9 ∨ n = 10 ∨ n = 11 ∨ n = 12 ∨ n = 13 ∨ n = 14 ∨ n = 15 ∨ 15 < n := by omega
  rcases hc with rfl | rfl | rfl | rfl | rfl | rfl | rfl | rfl | rfl | rfl | rfl | rfl | rfl | rfl | rfl | rfl | hn
  · exact sp_0 I hl hop
  · exact sp_1 I hl hop
  · exact sp_2 I hl hop
  · exact sp_3 I hl hop
  · exact sp_4 I hl hop
  · exact sp_5 I hl hop
  · exact sp_6 I hl hop
  · exact sp_7 I hl hop
  · exact sp_8 I hl hop
  · exact sp_9 I hl hop
  · exact sp_10 I hl hop
  · exact sp_11 I hl hop
  · exact sp_12 I hl hop
  · exact sp_13 I hl hop
  · exact sp_14 I hl hop
  · exact sp_15 I hl hop
  · exact sp_d I hl n hn (by omega) hop
theorem sp_take (I : pj_I sl wl dl ri si so pa pb pc qa qb qc fc L F R1 R2 R3 GC H FR) : (∃ c : Int32, ∀ q : Int32 → St2 → Prop, q 0 (sl, wl, dl, 3, c, ri, si, so, ac, rg_P pa pb pc, rg_P qa qb qc, fc, cx, L, F, R1, R2, R3, GC, GO, W, H, SC, FR) → wpX_takeStep q (sl, wl, dl, st, fa, ri, si, so, ac, rg_P pa pb pc, rg_P qa qb qc, fc, cx, L, F, R1, R2, R3, GC, GO, W, H, SC, FR)) ∨
  (rg_W sl L si so ∧ ∃ (sl1 wl1 dl1 st1 fa1 ri1 si1 so1 ac1 pa1 pb1 pc1 qa1 qb1 qc1 fc1 cx1 : Int32) (L1 F1 R11 R21 R31 GC1 GO1 W1 H1 SC1 FR1 : Nat → Int32), pj_I sl1 wl1 dl1 ri1 si1 so1 pa1 pb1 pc1 qa1 qb1 qc1 fc1 L1 F1 R11 R21 R31 GC1 H1 FR1 ∧ (∀ q : Int32 → St2 → Prop, q 1 (sl1, wl1, dl1, st1, fa1, ri1, si1, so1, ac1, rg_P pa1 pb1 pc1, rg_P qa1 qb1 qc1, fc1, cx1, L1, F1, R11, R21, R31, GC1, GO1, W1, H1, SC1, FR1) → wpX_takeStep q (sl, wl, dl, st, fa, ri, si, so, ac, rg_P pa pb pc, rg_P qa qb qc, fc, cx, L, F, R1, R2, R3, GC, GO, W, H, SC, FR)) ∧ pj_LC sl ri pa pb pc fc L F R1 R2 FR (W (si * 32 + so).toNatClampNeg) (sl1, wl1, dl1, st1, fa1, ri1, si1, so1, ac1, rg_P pa1 pb1 pc1, rg_P qa1 qb1 qc1, fc1, cx1, L1, F1, R11, R21, R31, GC1, GO1, W1, H1, SC1, FR1)) := by
  have I0 := I
  obtain ⟨c1, c2, c3, hS, hA, hH, hF, b1, b2, b3, p1, p2, p3, q1, q2, q3⟩ := I
  by_cases hd : rg_D sl L si
  · by_cases hl : L si.toNatClampNeg ≤ so
    · exact Or.inl ⟨2, fun q hq => xs_pre c1 hS b3 (fun z => absurd hd z) (fun _ _ => hq) (fun _ z => absurd hl z) (fun _ z => absurd hl z)⟩
    · by_cases hx : rg_MX F R1 R2 si ri
      · rcases sp_all (cx := cx) (st := st) (fa := fa) (ac := ac) (GO := GO) (W := W) (SC := SC) (w := W (si * 32 + so).toNatClampNeg) I0 hl with ⟨c, hc, hX⟩ | ⟨sl1, wl1, dl1, st1, fa1, ri1, si1, so1, ac1, pa1, pb1, pc1, qa1, qb1, qc1, fc1, L1, F1, R11, R21, R31, GC1, GO1, W1, H1, SC1, FR1, I1, hX, hC⟩
        · exact Or.inl ⟨c, fun q hq => xs_pre c1 hS b3 (fun z => absurd hd z) (fun _ z => absurd z hl) (fun _ _ z => absurd hx z) (fun _ _ _ => fun K' hk => hX K' (hk _ _ _ _ _ _ _ _ _ _ _ _ _ _ _ _ _ _ _ _ _ _ _ _ _ (br_f hc hq)))⟩
        · exact Or.inr ⟨⟨hd, rg_Bn b3 (by decide), hl⟩, sl1, wl1, dl1, st1, fa1, ri1, si1, so1, ac1, pa1, pb1, pc1, qa1, qb1, qc1, fc1, cx + 1, L1, F1, R11, R21, R31, GC1, GO1, W1, H1, SC1, FR1, I1, fun q hq => xs_pre c1 hS b3 (fun z => absurd hd z) (fun _ z => absurd z hl) (fun _ _ z => absurd hx z) (fun _ _ _ => fun K' hk => hX K' (hk _ _ _ _ _ _ _ _ _ _ _ _ _ _ _ _ _ _ _ _ _ _ _ _ _ (br_t rfl (nm_e hq)))), hC _⟩
      · exact Or.inl ⟨3, fun q hq => xs_pre c1 hS b3 (fun z => absurd hd z) (fun _ z => absurd z hl) (fun _ _ _ => hq) (fun _ _ z => absurd z hx)⟩
  · exact Or.inl ⟨1, fun q hq => xs_pre c1 hS b3 (fun _ => hq) (fun z => absurd z hd) (fun z => absurd z hd) (fun z => absurd z hd)⟩
end
end
section
section
variable {sl wl dl st fa ri si so ac pa pb pc qa qb qc fc cx P Q : Int32} {L F R1 R2 R3 GC GO W H SC FR : Nat → Int32} {p : Int32 → Prop} {s o e w : Int32}
variable {post : Int32 → Prop} {LL : Nat} {xs : Nat → Int32} {J384 J457 : Int32 → Int32 → Int32 → Int32 → Int32 → Int32 → Int32 → Int32 → Int32 → Int32 → Int32 → Int32 → Int32 → Int32 → Int32 → (Nat → Int32) → (Nat → Int32) → (Nat → Int32) → (Nat → Int32) → (Nat → Int32) → (Nat → Int32) → (Nat → Int32) → (Nat → Int32) → (Nat → Int32) → (Nat → Int32) → (Nat → Int32) → Int32 → Int32 → Int32 → Int32 → Int32 → Int32 → Int32 → Int32 → Int32 → Int32 → Int32 → Int32 → Int32 → (Nat → Int32) → (Nat → Int32) → (Nat → Int32) → (Nat → Int32) → (Nat → Int32) → (Nat → Int32) → (Nat → Int32) → (Nat → Int32) → (Nat → Int32) → (Nat → Int32) → (Nat → Int32) → Prop} {x3 x5 x8 x9 x10 x11 x12 x13 x16 x18 x19 x22 x23 x24 x25 : Int32} {kc ks : Nat} {bsl bwl bdl bst bfa bri bsi bso bac bP bQ bfc bcx : Int32} {bL bF bR1 bR2 bR3 bGC bGO bW bH bSC bFR : Nat → Int32}
theorem xl_peekV {s' o' : Int32} (e1 : s' = s) (e2 : o' = o) (c1 : rg_B 9 sl) (hS : rg_Seg L R1 R2 GC) (h : ∀ r : Int32, (rg_W sl L s o → r = W (s * 32 + o).toNatClampNeg) → p r) : wpX_peek p (sl, wl, dl, st, fa, ri, si, so, ac, P, Q, fc, cx, L, F, R1, R2, R3, GC, GO, W, H, SC, FR) s' o' := by
  subst e1
  subst e2
  by_cases hw : rg_W sl L s' o'
  · exact xl_peek c1 hS hw (h _ (fun _ => rfl))
  · unfold wpX_peek
    exact xl_isWord c1 (fun z => absurd z hw) (fun _ => br_t rfl (h 0 (fun z => absurd z hw)))
theorem xl_acc0 (c1 : rg_B 9 sl) (he : rg_B 8 e) (h : ∀ r : Int32, (rg_W sl L s o → rg_MR F R2 s e → ¬ r = 0) → p r) : wpX_access p (sl, wl, dl, st, fa, ri, si, so, ac, P, Q, fc, cx, L, F, R1, R2, R3, GC, GO, W, H, SC, FR) s o e 0 := by
  have h0 : ¬ e < 0 := rg_Bn he (by decide)
  have h7 : ¬ 7 < e := by
    obtain ⟨j, hj, rfl⟩ := he
    exact nI_nlt (a := 7) (by omega) (by decide)
  unfold wpX_access
  refine xl_isRing (fun _ _ => br_f rg_1 (xl_isWord c1 (fun hw => br_f rg_1 (br_f (by decide) (br_f (by decide) (br_t rfl (xl_mayRead (rg_DI c1 hw.1) (fun _ => And.intro rfl (h 1 (fun _ _ => rg_1))) (fun hm => And.intro rfl (h 0 (fun _ z => absurd z hm)))))))) (fun hw => br_t rfl (h 0 (fun z => absurd z hw))))) (fun z => absurd ⟨h0, h7⟩ z)
theorem xl_acc1 (c1 : rg_B 9 sl) (he : rg_B 8 e) (h : ∀ r : Int32, (rg_W sl L s o → rg_MW F R1 s e → ¬ r = 0) → p r) : wpX_access p (sl, wl, dl, st, fa, ri, si, so, ac, P, Q, fc, cx, L, F, R1, R2, R3, GC, GO, W, H, SC, FR) s o e 1 := by
  have h0 : ¬ e < 0 := rg_Bn he (by decide)
  have h7 : ¬ 7 < e := by
    obtain ⟨j, hj, rfl⟩ := he
    exact nI_nlt (a := 7) (by omega) (by decide)
  unfold wpX_access
  refine xl_isRing (fun _ _ => br_f rg_1 (xl_isWord c1 (fun hw => br_f rg_1 (br_f (by decide) (br_f (by decide) (br_f (by decide) (br_t rfl (xl_mayWrite (rg_DI c1 hw.1) (fun _ => And.intro rfl (h 1 (fun _ _ => rg_1))) (fun hm => And.intro rfl (h 0 (fun _ z => absurd z hm))))))))) (fun hw => br_t rfl (h 0 (fun z => absurd z hw))))) (fun z => absurd ⟨h0, h7⟩ z)
theorem xl_frP {f : Nat} (hf : f < 16) (e1 : fc = nI (f + 1)) (e2 : fc - 1 = nI f) (h : p (FR ((fc - 1) * 6 + 1).toNatClampNeg)) : wpX_frame p (sl, wl, dl, st, fa, ri, si, so, ac, P, Q, fc, cx, L, F, R1, R2, R3, GC, GO, W, H, SC, FR) (fc - 1) 1 := by
  rw [e2] at h ⊢
  refine br_f (nI_pos (by omega)) (br_f ?_ (br_f (by decide) (br_t (by decide) ⟨rg_i6 (o := nI 1) ⟨f, hf, rfl⟩ ⟨1, by decide, rfl⟩, h⟩)))
  rw [e1]
  exact nI_ge (by omega) (by omega)
theorem lz_566x (I : pj_I sl wl dl ri si so pa pb pc qa qb qc fc L F R1 R2 R3 GC H FR) (h : ∀ x22 x23 x24 : Int32, (rg_W sl L pa pb → rg_MR F R2 pa (rg_mx ri pc) → ¬ x22 = 0) → (rg_W sl L pa pb → rg_MW F R1 pa (rg_mx ri pc) → ¬ x23 = 0) → (¬ fc = 0 → x24 = FR ((fc - 1) * 6 + 1).toNatClampNeg) → wL_law_612 post LL xs J384 J457 x3 x5 x8 x9 x10 x11 ri fc x16 pa pb x22 x23 x24 kc ks sl wl dl st fa ri si so ac (rg_P pa pb pc) (rg_P qa qb qc) fc cx L F R1 R2 R3 GC GO W H SC FR bsl bwl bdl bst bfa bri bsi bso bac bP bQ bfc bcx bL bF bR1 bR2 bR3 bGC bGO bW bH bSC bFR) : wL_law_566 post LL xs J384 J457 x3 x5 x8 x9 x10 x11 ri fc x16 pa pb (rg_mx ri pc) kc ks sl wl dl st fa ri si so ac (rg_P pa pb pc) (rg_P qa qb qc) fc cx L F R1 R2 R3 GC GO W H SC FR bsl bwl bdl bst bfa bri bsi bso bac bP bQ bfc bcx bL bF bR1 bR2 bR3 bGC bGO bW bH bSC bFR := by
  obtain ⟨c1, c2, c3, hS, hA, hH, hF, b1, b2, b3, p1, p2, p3, q1, q2, q3⟩ := I
  unfold wL_law_566
  refine xl_acc0 c1 (rg_mx8 b1 p3) (fun x22 h22 => xl_acc1 c1 (rg_mx8 b1 p3) (fun x23 h23 => ?_))
  by_cases h0 : fc = 0
  · exact br_t (by rw [h0]; decide) (h x22 x23 _ h22 h23 (fun z => absurd h0 z))
  · obtain ⟨f, hf, e1, e2, _⟩ := rg_fB hF h0
    refine br_f ?_ (xl_frP hf e1 e2 (h x22 x23 _ h22 h23 (fun _ => rfl)))
    rw [e1]
    exact nI_nle (by omega) (by omega)
theorem lz_457x {n : Nat} (I : pj_I sl wl dl ri si so pa pb pc qa qb qc fc L F R1 R2 R3 GC H FR) (hlt : ¬ x9 ≤ x11) (h : ∀ pv x22 x23 x24 : Int32, (rg_W sl L si so → pv = W (si * 32 + so).toNatClampNeg) → (rg_W sl L pa pb → rg_MR F R2 pa (rg_mx ri pc) → ¬ x22 = 0) → (rg_W sl L pa pb → rg_MW F R1 pa (rg_mx ri pc) → ¬ x23 = 0) → (¬ fc = 0 → x24 = FR ((fc - 1) * 6 + 1).toNatClampNeg) → wL_law_612 post LL xs J384 (wL_law_457 post LL xs J384 x3 x5 x8 x9 kc ks n) x3 x5 x8 x9 x10 x11 ri fc (((pv).toUInt32 >>> ((16 : Int32).toUInt32 &&& Int32.toUInt32 31)).toInt32 &&& 255) pa pb x22 x23 x24 kc ks sl wl dl st fa ri si so ac (rg_P pa pb pc) (rg_P qa qb qc) fc cx L F R1 R2 R3 GC GO W H SC FR bsl bwl bdl bst bfa bri bsi bso bac bP bQ bfc bcx bL bF bR1 bR2 bR3 bGC bGO bW bH bSC bFR) : wL_law_457 post LL xs J384 x3 x5 x8 x9 kc ks (n + 1) x10 x11 sl wl dl st fa ri si so ac (rg_P pa pb pc) (rg_P qa qb qc) fc cx L F R1 R2 R3 GC GO W H SC FR bsl bwl bdl bst bfa bri bsi bso bac bP bQ bfc bcx bL bF bR1 bR2 bR3 bGC bGO bW bH bSC bFR := by
  have I0 := I
  obtain ⟨c1, c2, c3, hS, hA, hH, hF, b1, b2, b3, p1, p2, p3, q1, q2, q3⟩ := I
  refine br_f hlt (xl_st2 (xl_st7 (xl_st3 ⟨by decide, by decide, xl_peekV (rg_rD b2 b3) (rg_rR b2 b3) c1 hS (fun pv hpv => nm_e (xl_st5 (nm_r (rg_PS p1 p2 p3) (nm_r (rg_PO p1 p2 p3) (nm_r (rg_UR p1 p2 p3) ?_)))))⟩)))
  have h5 := lz_566x I0 (h pv · · · hpv)
  by_cases a : ri ≤ pc
  · rw [rg_mxp a] at h5; exact br_t a h5
  · rw [rg_mxn a] at h5; exact br_f a h5
/-- the law behind a call of run(1) that completed nothing -/
theorem lz_0 (hp : wL_law_908 post LL xs J384 x3 x5 x8 x10 kc ks sl wl dl st fa ri si so ac P Q fc cx L F R1 R2 R3 GC GO W H SC FR bsl bwl bdl bst bfa bri bsi bso bac bP bQ bfc bcx bL bF bR1 bR2 bR3 bGC bGO bW bH bSC bFR) : wL_law_634 post LL xs J384 J457 x3 x5 x8 x9 x10 x11 x12 x13 x16 x18 x19 x22 x23 x24 0 kc ks sl wl dl st fa ri si so ac P Q fc cx L F R1 R2 R3 GC GO W H SC FR bsl bwl bdl bst bfa bri bsi bso bac bP bQ bfc bcx bL bF bR1 bR2 bR3 bGC bGO bW bH bSC bFR :=
  br_f (by decide) (br_t rfl hp)
end
section
variable {post : Int32 → Prop} {LL : Nat} {xs : Nat → Int32}
/-- the first d steps: run on the second object, run(1) again and again in the law's loop on the first -/
theorem sp_loop (m : Nat) (hm : m ≤ 256) : ∀ d i : Nat, i + d = m → ∀ (sl wl dl st fa ri si so ac pa pb pc qa qb qc fc cx : Int32) (L F R1 R2 R3 GC GO W H SC FR : Nat → Int32), pj_I sl wl dl ri si so pa pb pc qa qb qc fc L F R1 R2 R3 GC H FR → ∃ (r sl2 wl2 dl2 st2 fa2 ri2 si2 so2 ac2 pa2 pb2 pc2 qa2 qb2 qc2 fc2 cx2 : Int32) (L2 F2 R12 R22 R32 GC2 GO2 W2 H2 SC2 FR2 : Nat → Int32), pj_I sl2 wl2 dl2 ri2 si2 so2 pa2 pb2 pc2 qa2 qb2 qc2 fc2 L2 F2 R12 R22 R32 GC2 H2 FR2 ∧
    (∀ (q : Int32 → St2 → Prop) (n : Nat) (c : Int32), d < n → q (c + r) (sl2, wl2, dl2, st2, fa2, ri2, si2, so2, ac2, rg_P pa2 pb2 pc2, rg_P qa2 qb2 qc2, fc2, cx2, L2, F2, R12, R22, R32, GC2, GO2, W2, H2, SC2, FR2) → wX_run_20 q (nI m) n c (nI i) sl wl dl st fa ri si so ac (rg_P pa pb pc) (rg_P qa qb qc) fc cx L F R1 R2 R3 GC GO W H SC FR) ∧
    (∀ (J384 : Int32 → Int32 → Int32 → Int32 → Int32 → Int32 → Int32 → Int32 → Int32 → Int32 → Int32 → Int32 → Int32 → Int32 → Int32 → (Nat → Int32) → (Nat → Int32) → (Nat → Int32) → (Nat → Int32) → (Nat → Int32) → (Nat → Int32) → (Nat → Int32) → (Nat → Int32) → (Nat → Int32) → (Nat → Int32) → (Nat → Int32) → Int32 → Int32 → Int32 → Int32 → Int32 → Int32 → Int32 → Int32 → Int32 → Int32 → Int32 → Int32 → Int32 → (Nat → Int32) → (Nat → Int32) → (Nat → Int32) → (Nat → Int32) → (Nat → Int32) → (Nat → Int32) → (Nat → Int32) → (Nat → Int32) → (Nat → Int32) → (Nat → Int32) → (Nat → Int32) → Prop) (x3 x5 x8 : Int32) (kc ks : Nat) (bsl bwl bdl bst bfa bri bsi bso bac bP bQ bfc bcx : Int32) (bL bF bR1 bR2 bR3 bGC bGO bW bH bSC bFR : Nat → Int32) (n : Nat) (c : Int32), d < n → wL_law_908 post LL xs J384 x3 x5 x8 (c + r) kc ks sl2 wl2 dl2 st2 fa2 ri2 si2 so2 ac2 (rg_P pa2 pb2 pc2) (rg_P qa2 qb2 qc2) fc2 cx2 L2 F2 R12 R22 R32 GC2 GO2 W2 H2 SC2 FR2 bsl bwl bdl bst bfa bri bsi bso bac bP bQ bfc bcx bL bF bR1 bR2 bR3 bGC bGO bW bH bSC bFR → wL_law_457 post LL xs J384 x3 x5 x8 (nI m) kc ks n c (nI i) sl wl dl st fa ri si so ac (rg_P pa pb pc) (rg_P qa qb qc) fc cx L F R1 R2 R3 GC GO W H SC FR bsl bwl bdl bst bfa bri bsi bso bac bP bQ bfc bcx bL bF bR1 bR2 bR3 bGC bGO bW bH bSC bFR) := by
  intro d
  induction d with
  | zero =>
    intro i hi sl wl dl st fa ri si so ac pa pb pc qa qb qc fc cx L F R1 R2 R3 GC GO W H SC FR I
    refine ⟨0, sl, wl, dl, st, fa, ri, si, so, ac, pa, pb, pc, qa, qb, qc, fc, cx, L, F, R1, R2, R3, GC, GO, W, H, SC, FR, I, fun q n c hn hq => ?_, fun J384 x3 x5 x8 kc ks bsl bwl bdl bst bfa bri bsi bso bac bP bQ bfc bcx bL bF bR1 bR2 bR3 bGC bGO bW bH bSC bFR n c hn hq => ?_⟩
    · obtain ⟨n, rfl⟩ := Nat.exists_eq_succ_of_ne_zero (n := n) (by omega)
      rw [Int32.add_zero] at hq
      exact br_t (nI_le (by omega) (by omega)) hq
    · obtain ⟨n, rfl⟩ := Nat.exists_eq_succ_of_ne_zero (n := n) (by omega)
      rw [Int32.add_zero] at hq
      exact br_t (nI_le (by omega) (by omega)) hq
  | succ d ih =>
    intro i hi sl wl dl st fa ri si so ac pa pb pc qa qb qc fc cx L F R1 R2 R3 GC GO W H SC FR I
    have hlt : ¬ nI m ≤ nI i := nI_ge (by omega) (by omega)
    have hend : ∀ (q : Int32 → St2 → Prop) (n : Nat) (c sl wl dl st fa ri si so ac P Q fc cx : Int32) (L F R1 R2 R3 GC GO W H SC FR : Nat → Int32), ¬ st = 1 → 0 < n → q c (sl, wl, dl, st, fa, ri, si, so, ac, P, Q, fc, cx, L, F, R1, R2, R3, GC, GO, W, H, SC, FR) → wX_run_20 q (nI m) n c (nI (i + 1)) sl wl dl st fa ri si so ac P Q fc cx L F R1 R2 R3 GC GO W H SC FR := by
      intro q n c sl wl dl st fa ri si so ac P Q fc cx L F R1 R2 R3 GC GO W H SC FR hs hn hq
      obtain ⟨n, rfl⟩ := Nat.exists_eq_succ_of_ne_zero (n := n) (by omega)
      by_cases h : nI m ≤ nI (i + 1)
      · exact br_t h hq
      · exact br_f h (br_f hs hq)
    by_cases hs : st = 1
    · rcases sp_take (cx := cx) (st := st) (fa := fa) (ac := ac) (GO := GO) (W := W) (SC := SC) I with ⟨c1, hX⟩ | ⟨hw, sl1, wl1, dl1, st1, fa1, ri1, si1, so1, ac1, pa1, pb1, pc1, qa1, qb1, qc1, fc1, cx1, L1, F1, R11, R21, R31, GC1, GO1, W1, H1, SC1, FR1, I1, hX, hC⟩
      · refine ⟨0, sl, wl, dl, 3, c1, ri, si, so, ac, pa, pb, pc, qa, qb, qc, fc, cx, L, F, R1, R2, R3, GC, GO, W, H, SC, FR, I, fun q n c hn hq => ?_, fun J384 x3 x5 x8 kc ks bsl bwl bdl bst bfa bri bsi bso bac bP bQ bfc bcx bL bF bR1 bR2 bR3 bGC bGO bW bH bSC bFR n c hn hq => ?_⟩
        · obtain ⟨n, rfl⟩ := Nat.exists_eq_succ_of_ne_zero (n := n) (by omega)
          rw [Int32.add_zero] at hq
          exact br_f hlt (br_t hs (hX _ (br_t rfl (nm_r (nI_1 i) (hend q n c _ _ _ _ _ _ _ _ _ _ _ _ _ _ _ _ _ _ _ _ _ _ _ _ (by decide) (by omega) hq)))))
        · obtain ⟨n, rfl⟩ := Nat.exists_eq_succ_of_ne_zero (n := n) (by omega)
          rw [Int32.add_zero] at hq
          refine lz_457x I hlt (fun pv x22 x23 x24 hpv h22 h23 h24 => ?_)
          unfold wL_law_612
          exact br_f (by decide) ⟨2, br_f (by decide) (br_t hs (hX _ (br_t rfl (nm_e (br_t (by decide) (br_t rfl (lz_0 hq)))))))⟩
      · have hC' : ∀ (J384 J457 : Int32 → Int32 → Int32 → Int32 → Int32 → Int32 → Int32 → Int32 → Int32 → Int32 → Int32 → Int32 → Int32 → Int32 → Int32 → (Nat → Int32) → (Nat → Int32) → (Nat → Int32) → (Nat → Int32) → (Nat → Int32) → (Nat → Int32) → (Nat → Int32) → (Nat → Int32) → (Nat → Int32) → (Nat → Int32) → (Nat → Int32) → Int32 → Int32 → Int32 → Int32 → Int32 → Int32 → Int32 → Int32 → Int32 → Int32 → Int32 → Int32 → Int32 → (Nat → Int32) → (Nat → Int32) → (Nat → Int32) → (Nat → Int32) → (Nat → Int32) → (Nat → Int32) → (Nat → Int32) → (Nat → Int32) → (Nat → Int32) → (Nat → Int32) → (Nat → Int32) → Prop) (x3 x5 x8 : Int32) (x10 x11 x22 x23 x24 : Int32) (kc ks : Nat) (bsl bwl bdl bst bfa bri bsi bso bac bP bQ bfc bcx : Int32) (bL bF bR1 bR2 bR3 bGC bGO bW bH bSC bFR : Nat → Int32), (rg_W sl L pa pb → rg_MR F R2 pa (rg_mx ri pc) → ¬ x22 = 0) → (rg_W sl L pa pb → rg_MW F R1 pa (rg_mx ri pc) → ¬ x23 = 0) → (¬ fc = 0 → x24 = FR ((fc - 1) * 6 + 1).toNatClampNeg) → wL_law_885 post LL xs J384 J457 x3 x5 x8 (nI m) (x10 + 1) x11 1 kc ks sl1 wl1 dl1 st1 fa1 ri1 si1 so1 ac1 (rg_P pa1 pb1 pc1) (rg_P qa1 qb1 qc1) fc1 cx1 L1 F1 R11 R21 R31 GC1 GO1 W1 H1 SC1 FR1 bsl bwl bdl bst bfa bri bsi bso bac bP bQ bfc bcx bL bF bR1 bR2 bR3 bGC bGO bW bH bSC bFR → wL_law_634 post LL xs J384 J457 x3 x5 x8 (nI m) x10 x11 ri fc (((W (si * 32 + so).toNatClampNeg).toUInt32 >>> ((16 : Int32).toUInt32 &&& Int32.toUInt32 31)).toInt32 &&& 255) pa pb x22 x23 x24 1 kc ks sl1 wl1 dl1 st1 fa1 ri1 si1 so1 ac1 (rg_P pa1 pb1 pc1) (rg_P qa1 qb1 qc1) fc1 cx1 L1 F1 R11 R21 R31 GC1 GO1 W1 H1 SC1 FR1 bsl bwl bdl bst bfa bri bsi bso bac bP bQ bfc bcx bL bF bR1 bR2 bR3 bGC bGO bW bH bSC bFR :=
          fun J384 J457 x3 x5 x8 x10 x11 x22 x23 x24 kc ks bsl bwl bdl bst bfa bri bsi bso bac bP bQ bfc bcx bL bF bR1 bR2 bR3 bGC bGO bW bH bSC bFR h22 h23 h24 hp => hC post LL xs J384 J457 x3 x5 x8 (nI m) x10 x11 x22 x23 x24 kc ks bsl bwl bdl bst bfa bri bsi bso bac bP bQ bfc bcx bL bF bR1 bR2 bR3 bGC bGO bW bH bSC bFR h22 h23 h24 hp
        by_cases hs1 : st1 = 1
        · obtain ⟨r, sl2, wl2, dl2, st2, fa2, ri2, si2, so2, ac2, pa2, pb2, pc2, qa2, qb2, qc2, fc2, cx2, L2, F2, R12, R22, R32, GC2, GO2, W2, H2, SC2, FR2, V2, HX, HL⟩ := ih (i + 1) (by omega) sl1 wl1 dl1 st1 fa1 ri1 si1 so1 ac1 pa1 pb1 pc1 qa1 qb1 qc1 fc1 cx1 L1 F1 R11 R21 R31 GC1 GO1 W1 H1 SC1 FR1 I1
          refine ⟨1 + r, sl2, wl2, dl2, st2, fa2, ri2, si2, so2, ac2, pa2, pb2, pc2, qa2, qb2, qc2, fc2, cx2, L2, F2, R12, R22, R32, GC2, GO2, W2, H2, SC2, FR2, V2, fun q n c hn hq => ?_, fun J384 x3 x5 x8 kc ks bsl bwl bdl bst bfa bri bsi bso bac bP bQ bfc bcx bL bF bR1 bR2 bR3 bGC bGO bW bH bSC bFR n c hn hq => ?_⟩
          · obtain ⟨n, rfl⟩ := Nat.exists_eq_succ_of_ne_zero (n := n) (by omega)
            rw [← Int32.add_assoc] at hq
            exact br_f hlt (br_t hs (hX _ (br_f rg_1 (nm_e (nm_r (nI_1 i) (HX q n (c + 1) (by omega) hq))))))
          · obtain ⟨n, rfl⟩ := Nat.exists_eq_succ_of_ne_zero (n := n) (by omega)
            rw [← Int32.add_assoc] at hq
            refine lz_457x I hlt (fun pv x22 x23 x24 hpv h22 h23 h24 => ?_)
            have e := hpv hw
            subst e
            unfold wL_law_612
            refine br_f (by decide) ⟨2, br_f (by decide) (br_t hs (hX _ (br_f rg_1 (nm_r (e' := 1) (by decide) (nm_e (br_t (by decide) (br_f rg_1 (br_t rfl ?_))))))))⟩
            exact hC' J384 _ x3 x5 x8 c (nI i) x22 x23 x24 kc ks bsl bwl bdl bst bfa bri bsi bso bac bP bQ bfc bcx bL bF bR1 bR2 bR3 bGC bGO bW bH bSC bFR h22 h23 h24 (br_f rg_1 (xl_st0 (br_t hs1 (nm_r (nI_1 i) (HL J384 x3 x5 x8 kc ks bsl bwl bdl bst bfa bri bsi bso bac bP bQ bfc bcx bL bF bR1 bR2 bR3 bGC bGO bW bH bSC bFR n (c + 1) (by omega) hq)))))
        · refine ⟨1, sl1, wl1, dl1, st1, fa1, ri1, si1, so1, ac1, pa1, pb1, pc1, qa1, qb1, qc1, fc1, cx1, L1, F1, R11, R21, R31, GC1, GO1, W1, H1, SC1, FR1, I1, fun q n c hn hq => ?_, fun J384 x3 x5 x8 kc ks bsl bwl bdl bst bfa bri bsi bso bac bP bQ bfc bcx bL bF bR1 bR2 bR3 bGC bGO bW bH bSC bFR n c hn hq => ?_⟩
          · obtain ⟨n, rfl⟩ := Nat.exists_eq_succ_of_ne_zero (n := n) (by omega)
            exact br_f hlt (br_t hs (hX _ (br_f rg_1 (nm_e (nm_r (nI_1 i) (hend q n (c + 1) _ _ _ _ _ _ _ _ _ _ _ _ _ _ _ _ _ _ _ _ _ _ _ _ hs1 (by omega) hq))))))
          · obtain ⟨n, rfl⟩ := Nat.exists_eq_succ_of_ne_zero (n := n) (by omega)
            refine lz_457x I hlt (fun pv x22 x23 x24 hpv h22 h23 h24 => ?_)
            have e := hpv hw
            subst e
            unfold wL_law_612
            refine br_f (by decide) ⟨2, br_f (by decide) (br_t hs (hX _ (br_f rg_1 (nm_r (e' := 1) (by decide) (nm_e (br_t (by decide) (br_f rg_1 (br_t rfl ?_))))))))⟩
            exact hC' J384 _ x3 x5 x8 c (nI i) x22 x23 x24 kc ks bsl bwl bdl bst bfa bri bsi bso bac bP bQ bfc bcx bL bF bR1 bR2 bR3 bGC bGO bW bH bSC bFR h22 h23 h24 (br_f rg_1 (xl_st0 (br_f hs1 hq)))
    · refine ⟨0, sl, wl, dl, st, fa, ri, si, so, ac, pa, pb, pc, qa, qb, qc, fc, cx, L, F, R1, R2, R3, GC, GO, W, H, SC, FR, I, fun q n c hn hq => ?_, fun J384 x3 x5 x8 kc ks bsl bwl bdl bst bfa bri bsi bso bac bP bQ bfc bcx bL bF bR1 bR2 bR3 bGC bGO bW bH bSC bFR n c hn hq => ?_⟩
      · obtain ⟨n, rfl⟩ := Nat.exists_eq_succ_of_ne_zero (n := n) (by omega)
        rw [Int32.add_zero] at hq
        exact br_f hlt (br_f hs hq)
      · obtain ⟨n, rfl⟩ := Nat.exists_eq_succ_of_ne_zero (n := n) (by omega)
        rw [Int32.add_zero] at hq
        refine lz_457x I hlt (fun pv x22 x23 x24 hpv h22 h23 h24 => ?_)
        unfold wL_law_612
        exact br_f (by decide) ⟨1, br_f (by decide) (br_f hs (br_t rfl (lz_0 hq)))⟩
end
end
section
section
variable {post : Int32 → Prop} {LL : Nat} {xs : Nat → Int32} {kc ks : Nat}
theorem lz_423 {J384 : Int32 → Int32 → Int32 → Int32 → Int32 → Int32 → Int32 → Int32 → Int32 → Int32 → Int32 → Int32 → Int32 → Int32 → Int32 → (Nat → Int32) → (Nat → Int32) → (Nat → Int32) → (Nat → Int32) → (Nat → Int32) → (Nat → Int32) → (Nat → Int32) → (Nat → Int32) → (Nat → Int32) → (Nat → Int32) → (Nat → Int32) → Int32 → Int32 → Int32 → Int32 → Int32 → Int32 → Int32 → Int32 → Int32 → Int32 → Int32 → Int32 → Int32 → (Nat → Int32) → (Nat → Int32) → (Nat → Int32) → (Nat → Int32) → (Nat → Int32) → (Nat → Int32) → (Nat → Int32) → (Nat → Int32) → (Nat → Int32) → (Nat → Int32) → (Nat → Int32) → Prop} {sl wl dl st fa ri si so ac pa pb pc qa qb qc fc cx x5 z : Int32} {L F R1 R2 R3 GC GO W H SC FR : Nat → Int32} {t : Nat} (hL : LL ≤ 260) (ht : t < 2 ^ 20) (I : pj_I sl wl dl ri si so pa pb pc qa qb qc fc L F R1 R2 R3 GC H FR) (hz : z = -1 ∨ z = 300 ∨ ∃ m : Nat, m < 6 ∧ z = nI m) (hJ : ∀ (y : Int32) (sl' wl' dl' st' fa' ri' si' so' ac' pa' pb' pc' qa' qb' qc' fc' cx' : Int32) (L' F' R1' R2' R3' GC' GO' W' H' SC' FR' : Nat → Int32), (y = nI t ∨ y = nI (t + 1)) → pj_I sl' wl' dl' ri' si' so' pa' pb' pc' qa' qb' qc' fc' L' F' R1' R2' R3' GC' H' FR' → J384 y (x5 + 1) sl' wl' dl' st' fa' ri' si' so' ac' (rg_P pa' pb' pc') (rg_P qa' qb' qc') fc' cx' L' F' R1' R2' R3' GC' GO' W' H' SC' FR' sl' wl' dl' st' fa' ri' si' so' ac' (rg_P pa' pb' pc') (rg_P qa' qb' qc') fc' cx' L' F' R1' R2' R3' GC' GO' W' H' SC' FR') : wL_law_423 post LL xs J384 (nI t) x5 z kc ks sl wl dl st fa ri si so ac (rg_P pa pb pc) (rg_P qa qb qc) fc cx L F R1 R2 R3 GC GO W H SC FR sl wl dl st fa ri si so ac (rg_P pa pb pc) (rg_P qa qb qc) fc cx L F R1 R2 R3 GC GO W H SC FR := by
  unfold wL_law_423
  rcases hz with rfl | rfl | ⟨m, hm, rfl⟩
  · exact br_f (by decide) ⟨1, br_t (by decide) (br_f (by decide) ⟨1, br_t (by decide) (lc_908 hL ht I hJ)⟩)⟩
  · obtain ⟨r, sl2, wl2, dl2, st2, fa2, ri2, si2, so2, ac2, pa2, pb2, pc2, qa2, qb2, qc2, fc2, cx2, L2, F2, R12, R22, R32, GC2, GO2, W2, H2, SC2, FR2, I2, HX, HL⟩ := sp_loop (post := post) (LL := LL) (xs := xs) 256 (by decide) 256 0 rfl sl wl dl st fa ri si so ac pa pb pc qa qb qc fc cx L F R1 R2 R3 GC GO W H SC FR I
    exact br_t (by decide) ⟨257, HX _ 257 0 (by decide) (br_t (by decide) ⟨257, HL J384 (nI t) x5 (0 + r) kc ks sl2 wl2 dl2 st2 fa2 ri2 si2 so2 ac2 (rg_P pa2 pb2 pc2) (rg_P qa2 qb2 qc2) fc2 cx2 L2 F2 R12 R22 R32 GC2 GO2 W2 H2 SC2 FR2 257 0 (by decide) (lc_908 hL ht I2 hJ)⟩)⟩
  · obtain ⟨r, sl2, wl2, dl2, st2, fa2, ri2, si2, so2, ac2, pa2, pb2, pc2, qa2, qb2, qc2, fc2, cx2, L2, F2, R12, R22, R32, GC2, GO2, W2, H2, SC2, FR2, I2, HX, HL⟩ := sp_loop (post := post) (LL := LL) (xs := xs) m (by omega) m 0 (by omega) sl wl dl st fa ri si so ac pa pb pc qa qb qc fc cx L F R1 R2 R3 GC GO W H SC FR I
    have hn : ¬ (256 : Int32) ≤ nI m := nI_ge (b := 256) (by omega) (by decide)
    exact br_f hn ⟨m + 1, HX _ (m + 1) 0 (by omega) (br_f hn ⟨m + 1, HL J384 (nI t) x5 (0 + r) kc ks sl2 wl2 dl2 st2 fa2 ri2 si2 so2 ac2 (rg_P pa2 pb2 pc2) (rg_P qa2 qb2 qc2) fc2 cx2 L2 F2 R12 R22 R32 GC2 GO2 W2 H2 SC2 FR2 (m + 1) 0 (by omega) (lc_908 hL ht I2 hJ)⟩)⟩
theorem lz_384 (hp : post 1) (hL : LL ≤ 260) : ∀ d i : Nat, i + d = 12 → ∀ (t : Nat) (sl wl dl st fa ri si so ac pa pb pc qa qb qc fc cx : Int32) (L F R1 R2 R3 GC GO W H SC FR : Nat → Int32), t + 2 * d < 2 ^ 19 → pj_I sl wl dl ri si so pa pb pc qa qb qc fc L F R1 R2 R3 GC H FR → wL_law_384 post LL xs kc ks (d + 1) (nI t) (nI i) sl wl dl st fa ri si so ac (rg_P pa pb pc) (rg_P qa qb qc) fc cx L F R1 R2 R3 GC GO W H SC FR sl wl dl st fa ri si so ac (rg_P pa pb pc) (rg_P qa qb qc) fc cx L F R1 R2 R3 GC GO W H SC FR := by
  intro d
  induction d with
  | zero =>
    intro i hi t sl wl dl st fa ri si so ac pa pb pc qa qb qc fc cx L F R1 R2 R3 GC GO W H SC FR ht I
    have e : i = 12 := by omega
    subst e
    exact br_t (by decide) hp
  | succ d ih =>
    intro i hi t sl wl dl st fa ri si so ac pa pb pc qa qb qc fc cx L F R1 R2 R3 GC GO W H SC FR ht I
    have hJ : ∀ (y : Int32) (sl' wl' dl' st' fa' ri' si' so' ac' pa' pb' pc' qa' qb' qc' fc' cx' : Int32) (L' F' R1' R2' R3' GC' GO' W' H' SC' FR' : Nat → Int32), (y = nI (t + 1) ∨ y = nI (t + 1 + 1)) → pj_I sl' wl' dl' ri' si' so' pa' pb' pc' qa' qb' qc' fc' L' F' R1' R2' R3' GC' H' FR' → wL_law_384 post LL xs kc ks (d + 1) y (nI i + 1) sl' wl' dl' st' fa' ri' si' so' ac' (rg_P pa' pb' pc') (rg_P qa' qb' qc') fc' cx' L' F' R1' R2' R3' GC' GO' W' H' SC' FR' sl' wl' dl' st' fa' ri' si' so' ac' (rg_P pa' pb' pc') (rg_P qa' qb' qc') fc' cx' L' F' R1' R2' R3' GC' GO' W' H' SC' FR' := by
      intro y sl' wl' dl' st' fa' ri' si' so' ac' pa' pb' pc' qa' qb' qc' fc' cx' L' F' R1' R2' R3' GC' GO' W' H' SC' FR' hy I'
      rw [nI_1]
      rcases hy with rfl | rfl
      · exact ih (i + 1) (by omega) (t + 1) sl' wl' dl' st' fa' ri' si' so' ac' pa' pb' pc' qa' qb' qc' fc' cx' L' F' R1' R2' R3' GC' GO' W' H' SC' FR' (by omega) I'
      · exact ih (i + 1) (by omega) (t + 1 + 1) sl' wl' dl' st' fa' ri' si' so' ac' pa' pb' pc' qa' qb' qc' fc' cx' L' F' R1' R2' R3' GC' GO' W' H' SC' FR' (by omega) I'
    refine br_f (nI_ge (b := 12) (by omega) (by decide)) (nm_r (nI_1 t) (lc_cell hL (by omega) (fun r => lc_mod (k := 8) (by decide) (by decide) (fun r7 hb => ?_))))
    by_cases h7 : r7 = 7
    · exact br_t h7 (lz_423 hL (by omega) I (Or.inr (Or.inl rfl)) hJ)
    · refine br_f h7 (lz_423 hL (by omega) I ?_ hJ)
      obtain ⟨j, hj, rfl⟩ := hb
      by_cases h0 : j = 0
      · subst h0
        exact Or.inl (by decide)
      · obtain ⟨k, rfl⟩ := Nat.exists_eq_succ_of_ne_zero h0
        have hk : k ≠ 6 := fun z => h7 (by rw [z]; rfl)
        exact Or.inr (Or.inr ⟨k, by omega, nI_pred k⟩)
theorem lc_modE {p : Int32 → Prop} {a m : Int32} (k : Nat) (e : m = nI k) (hk : 0 < k) (hk2 : k < 2 ^ 20) (h : ∀ r, rg_B k r → p r) : wpL_mod p () a m := by
  rw [e]
  exact lc_mod hk hk2 h
theorem lz_247 {J29 : Int32 → Int32 → Int32 → Int32 → Int32 → Int32 → Int32 → Int32 → Int32 → Int32 → Int32 → Int32 → Int32 → Int32 → Int32 → (Nat → Int32) → (Nat → Int32) → (Nat → Int32) → (Nat → Int32) → (Nat → Int32) → (Nat → Int32) → (Nat → Int32) → (Nat → Int32) → (Nat → Int32) → (Nat → Int32) → (Nat → Int32) → Int32 → Int32 → Int32 → Int32 → Int32 → Int32 → Int32 → Int32 → Int32 → Int32 → Int32 → Int32 → Int32 → (Nat → Int32) → (Nat → Int32) → (Nat → Int32) → (Nat → Int32) → (Nat → Int32) → (Nat → Int32) → (Nat → Int32) → (Nat → Int32) → (Nat → Int32) → (Nat → Int32) → (Nat → Int32) → Prop} {x4 : Int32} {len T : Nat} (hL : LL ≤ 260) (hT : T ≤ 1000) (hlen : len ≤ 16) (hJ : ∀ (t' : Nat) (sl' wl' dl' st' fa' ri' si' so' ac' pa' pb' pc' qa' qb' qc' fc' cx' : Int32) (L' F' R1' R2' R3' GC' GO' W' H' SC' FR' : Nat → Int32), t' ≤ T → pj_I sl' wl' dl' ri' si' so' pa' pb' pc' qa' qb' qc' fc' L' F' R1' R2' R3' GC' H' FR' → J29 (nI t') (x4 + 1) sl' wl' dl' st' fa' ri' si' so' ac' (rg_P pa' pb' pc') (rg_P qa' qb' qc') fc' cx' L' F' R1' R2' R3' GC' GO' W' H' SC' FR' sl' wl' dl' st' fa' ri' si' so' ac' (rg_P pa' pb' pc') (rg_P qa' qb' qc') fc' cx' L' F' R1' R2' R3' GC' GO' W' H' SC' FR') : ∀ d i : Nat, i + d = len → ∀ (t : Nat) (sl wl dl st fa ri si so ac pa pb pc qa qb qc fc cx : Int32) (L F R1 R2 R3 GC GO W H SC FR : Nat → Int32), t + d ≤ T → pj_I sl wl dl ri si so pa pb pc qa qb qc fc L F R1 R2 R3 GC H FR → wL_law_247 post LL xs J29 x4 (nI len) kc ks (d + 1) (nI t) (nI i) sl wl dl st fa ri si so ac (rg_P pa pb pc) (rg_P qa qb qc) fc cx L F R1 R2 R3 GC GO W H SC FR sl wl dl st fa ri si so ac (rg_P pa pb pc) (rg_P qa qb qc) fc cx L F R1 R2 R3 GC GO W H SC FR := by
  intro d
  induction d with
  | zero =>
    intro i hi t sl wl dl st fa ri si so ac pa pb pc qa qb qc fc cx L F R1 R2 R3 GC GO W H SC FR ht I
    exact br_t (nI_le (by omega) (by omega)) (nm_e (hJ t sl wl dl st fa ri si so ac pa pb pc qa qb qc fc cx L F R1 R2 R3 GC GO W H SC FR (by omega) I))
  | succ d ih =>
    intro i hi t sl wl dl st fa ri si so ac pa pb pc qa qb qc fc cx L F R1 R2 R3 GC GO W H SC FR ht I
    refine br_f (nI_ge (by omega) (by omega)) (nm_r (nI_1 t) (lc_cell hL (by omega) (fun r => nm_e ?_)))
    obtain ⟨r1, u1, V1, h1⟩ := mo_poke (pj_mk (cx := cx) (st := st) (fa := fa) (ac := ac) (GO := GO) (W := W) (SC := SC) I) x4 (nI i) (((r &&& 15) <<< ((16 : Int32) &&& 31)) ||| ((((r.toUInt32 >>> ((4 : Int32).toUInt32 &&& Int32.toUInt32 31)).toInt32) &&& 3) <<< ((8 : Int32) &&& 31)) ||| (((r.toUInt32 >>> ((6 : Int32).toUInt32 &&& Int32.toUInt32 31)).toInt32) &&& 15))
    obtain ⟨sl1, wl1, dl1, st1, fa1, ri1, si1, so1, ac1, pa1, pb1, pc1, qa1, qb1, qc1, fc1, cx1, L1, F1, R11, R21, R31, GC1, GO1, W1, H1, SC1, FR1, rfl, I1⟩ := V1
    exact h1 _ (h1 _ (nm_r (nI_1 i) (ih (i + 1) (by omega) (t + 1) sl1 wl1 dl1 st1 fa1 ri1 si1 so1 ac1 pa1 pb1 pc1 qa1 qb1 qc1 fc1 cx1 L1 F1 R11 R21 R31 GC1 GO1 W1 H1 SC1 FR1 (by omega) I1)))
theorem lz_198 {J29 : Int32 → Int32 → Int32 → Int32 → Int32 → Int32 → Int32 → Int32 → Int32 → Int32 → Int32 → Int32 → Int32 → Int32 → Int32 → (Nat → Int32) → (Nat → Int32) → (Nat → Int32) → (Nat → Int32) → (Nat → Int32) → (Nat → Int32) → (Nat → Int32) → (Nat → Int32) → (Nat → Int32) → (Nat → Int32) → (Nat → Int32) → Int32 → Int32 → Int32 → Int32 → Int32 → Int32 → Int32 → Int32 → Int32 → Int32 → Int32 → Int32 → Int32 → (Nat → Int32) → (Nat → Int32) → (Nat → Int32) → (Nat → Int32) → (Nat → Int32) → (Nat → Int32) → (Nat → Int32) → (Nat → Int32) → (Nat → Int32) → (Nat → Int32) → (Nat → Int32) → Prop} {x4 : Int32} {len g T : Nat} (hL : LL ≤ 260) (hT : T ≤ 1000) (hlen : len ≤ 16) (hlen0 : 0 < len) (hg : g ≤ 4) (hJ : ∀ (t' : Nat) (sl' wl' dl' st' fa' ri' si' so' ac' pa' pb' pc' qa' qb' qc' fc' cx' : Int32) (L' F' R1' R2' R3' GC' GO' W' H' SC' FR' : Nat → Int32), t' ≤ T → pj_I sl' wl' dl' ri' si' so' pa' pb' pc' qa' qb' qc' fc' L' F' R1' R2' R3' GC' H' FR' → J29 (nI t') (x4 + 1) sl' wl' dl' st' fa' ri' si' so' ac' (rg_P pa' pb' pc') (rg_P qa' qb' qc') fc' cx' L' F' R1' R2' R3' GC' GO' W' H' SC' FR' sl' wl' dl' st' fa' ri' si' so' ac' (rg_P pa' pb' pc') (rg_P qa' qb' qc') fc' cx' L' F' R1' R2' R3' GC' GO' W' H' SC' FR') : ∀ d i : Nat, i + d = g → ∀ (t : Nat) (sl wl dl st fa ri si so ac pa pb pc qa qb qc fc cx : Int32) (L F R1 R2 R3 GC GO W H SC FR : Nat → Int32), t + d + len ≤ T → pj_I sl wl dl ri si so pa pb pc qa qb qc fc L F R1 R2 R3 GC H FR → wL_law_198 post LL xs J29 x4 (nI len) (nI g) kc ks (d + 1) (nI t) (nI i) sl wl dl st fa ri si so ac (rg_P pa pb pc) (rg_P qa qb qc) fc cx L F R1 R2 R3 GC GO W H SC FR sl wl dl st fa ri si so ac (rg_P pa pb pc) (rg_P qa qb qc) fc cx L F R1 R2 R3 GC GO W H SC FR := by
  intro d
  induction d with
  | zero =>
    intro i hi t sl wl dl st fa ri si so ac pa pb pc qa qb qc fc cx L F R1 R2 R3 GC GO W H SC FR ht I
    exact br_t (nI_le (by omega) (by omega)) ⟨len + 1, lz_247 hL hT hlen hJ len 0 (by omega) t sl wl dl st fa ri si so ac pa pb pc qa qb qc fc cx L F R1 R2 R3 GC GO W H SC FR (by omega) I⟩
  | succ d ih =>
    intro i hi t sl wl dl st fa ri si so ac pa pb pc qa qb qc fc cx L F R1 R2 R3 GC GO W H SC FR ht I
    refine br_f (nI_ge (by omega) (by omega)) (nm_r (nI_1 t) (lc_cell hL (by omega) (fun r => lc_mod hlen0 (by omega) (fun r2 hb => ?_))))
    obtain ⟨r1, u1, V1, h1⟩ := mo_addGate (pj_mk (cx := cx) (st := st) (fa := fa) (ac := ac) (GO := GO) (W := W) (SC := SC) I) x4 r2
    obtain ⟨sl1, wl1, dl1, st1, fa1, ri1, si1, so1, ac1, pa1, pb1, pc1, qa1, qb1, qc1, fc1, cx1, L1, F1, R11, R21, R31, GC1, GO1, W1, H1, SC1, FR1, rfl, I1⟩ := V1
    exact h1 _ (h1 _ (nm_r (nI_1 i) (ih (i + 1) (by omega) (t + 1) sl1 wl1 dl1 st1 fa1 ri1 si1 so1 ac1 pa1 pb1 pc1 qa1 qb1 qc1 fc1 cx1 L1 F1 R11 R21 R31 GC1 GO1 W1 H1 SC1 FR1 (by omega) I1)))
theorem lz_83 {J29 : Int32 → Int32 → Int32 → Int32 → Int32 → Int32 → Int32 → Int32 → Int32 → Int32 → Int32 → Int32 → Int32 → Int32 → Int32 → (Nat → Int32) → (Nat → Int32) → (Nat → Int32) → (Nat → Int32) → (Nat → Int32) → (Nat → Int32) → (Nat → Int32) → (Nat → Int32) → (Nat → Int32) → (Nat → Int32) → (Nat → Int32) → Int32 → Int32 → Int32 → Int32 → Int32 → Int32 → Int32 → Int32 → Int32 → Int32 → Int32 → Int32 → Int32 → (Nat → Int32) → (Nat → Int32) → (Nat → Int32) → (Nat → Int32) → (Nat → Int32) → (Nat → Int32) → (Nat → Int32) → (Nat → Int32) → (Nat → Int32) → (Nat → Int32) → (Nat → Int32) → Prop} {sl wl dl st fa ri si so ac pa pb pc qa qb qc fc cx x4 x7 : Int32} {L F R1 R2 R3 GC GO W H SC FR : Nat → Int32} {len t T : Nat} (hL : LL ≤ 260) (hT : T ≤ 1000) (hlen : len ≤ 16) (hlen0 : 0 < len) (hJ : ∀ (t' : Nat) (sl' wl' dl' st' fa' ri' si' so' ac' pa' pb' pc' qa' qb' qc' fc' cx' : Int32) (L' F' R1' R2' R3' GC' GO' W' H' SC' FR' : Nat → Int32), t' ≤ T → pj_I sl' wl' dl' ri' si' so' pa' pb' pc' qa' qb' qc' fc' L' F' R1' R2' R3' GC' H' FR' → J29 (nI t') (x4 + 1) sl' wl' dl' st' fa' ri' si' so' ac' (rg_P pa' pb' pc') (rg_P qa' qb' qc') fc' cx' L' F' R1' R2' R3' GC' GO' W' H' SC' FR' sl' wl' dl' st' fa' ri' si' so' ac' (rg_P pa' pb' pc') (rg_P qa' qb' qc') fc' cx' L' F' R1' R2' R3' GC' GO' W' H' SC' FR') (ht : t + 30 ≤ T) (I : pj_I sl wl dl ri si so pa pb pc qa qb qc fc L F R1 R2 R3 GC H FR) : wL_law_83 post LL xs J29 (nI t) x4 (nI len) x7 kc ks sl wl dl st fa ri si so ac (rg_P pa pb pc) (rg_P qa qb qc) fc cx L F R1 R2 R3 GC GO W H SC FR sl wl dl st fa ri si so ac (rg_P pa pb pc) (rg_P qa qb qc) fc cx L F R1 R2 R3 GC GO W H SC FR := by
  refine nm_r (nI_1 t) (lc_cell hL (by omega) (fun w1 => lc_mod (k := 8) (by decide) (by decide) (fun r1 hb1 => ?_)))
  obtain ⟨a, ha, rfl⟩ := hb1
  refine nm_r (nI_1 (t + 1)) (lc_cell hL (by omega) (fun w2 => lc_modE (8 - a) (pk_sub (a := 8) (b := a) (by omega)) (by omega) (by omega) (fun r2 hb2 => ?_)))
  obtain ⟨b, hb, rfl⟩ := hb2
  refine nm_r (nI_add a b) (nm_r (nI_1 (t + 1 + 1)) (lc_cell hL (by omega) (fun w3 => lc_modE (8 - (a + b)) (pk_sub (a := 8) (b := a + b) (by omega)) (by omega) (by omega) (fun r3 hb3 => nm_e (nm_e ?_)))))
  obtain ⟨r4, u1, V1, h1⟩ := mo_defineSegment (pj_mk (cx := cx) (st := st) (fa := fa) (ac := ac) (GO := GO) (W := W) (SC := SC) I) x4 (nI len) x7 ((nI a ||| (nI (a + b) <<< ((4 : Int32) &&& 31))) ||| ((nI (a + b) + r3) <<< ((8 : Int32) &&& 31)))
  obtain ⟨sl1, wl1, dl1, st1, fa1, ri1, si1, so1, ac1, pa1, pb1, pc1, qa1, qb1, qc1, fc1, cx1, L1, F1, R11, R21, R31, GC1, GO1, W1, H1, SC1, FR1, rfl, I1⟩ := V1
  refine h1 _ (h1 _ (nm_r (nI_1 (t + 1 + 1 + 1)) (lc_cell hL (by omega) (fun w4 => lc_mod (k := 4) (by decide) (by decide) (fun r5 hb5 => ?_)))))
  obtain ⟨g, hg, rfl⟩ := hb5
  exact ⟨g + 1, lz_198 hL hT hlen hlen0 (by omega) hJ g 0 (by omega) (t + 1 + 1 + 1 + 1) sl1 wl1 dl1 st1 fa1 ri1 si1 so1 ac1 pa1 pb1 pc1 qa1 qb1 qc1 fc1 cx1 L1 F1 R11 R21 R31 GC1 GO1 W1 H1 SC1 FR1 (by omega) I1⟩
theorem lz_29 (hp : post 1) (hL : LL ≤ 260) : ∀ d i : Nat, i + d = 4 → ∀ (t : Nat) (sl wl dl st fa ri si so ac pa pb pc qa qb qc fc cx : Int32) (L F R1 R2 R3 GC GO W H SC FR : Nat → Int32), t + 40 * d ≤ 900 → pj_I sl wl dl ri si so pa pb pc qa qb qc fc L F R1 R2 R3 GC H FR → wL_law_29 post LL xs kc ks (d + 1) (nI t) (nI i) sl wl dl st fa ri si so ac (rg_P pa pb pc) (rg_P qa qb qc) fc cx L F R1 R2 R3 GC GO W H SC FR sl wl dl st fa ri si so ac (rg_P pa pb pc) (rg_P qa qb qc) fc cx L F R1 R2 R3 GC GO W H SC FR := by
  intro d
  induction d with
  | zero =>
    intro i hi t sl wl dl st fa ri si so ac pa pb pc qa qb qc fc cx L F R1 R2 R3 GC GO W H SC FR ht I
    have e : i = 4 := by omega
    subst e
    refine br_t (by decide) (nm_r (nI_1 t) (lc_cell hL (by omega) (fun r => ?_)))
    obtain ⟨r1, u1, V1, h1⟩ := mo_start (pj_mk (cx := cx) (st := st) (fa := fa) (ac := ac) (GO := GO) (W := W) (SC := SC) I) (r &&& 3) ((r.toUInt32 >>> ((2 : Int32).toUInt32 &&& Int32.toUInt32 31)).toInt32 &&& 3) ((r.toUInt32 >>> ((4 : Int32).toUInt32 &&& Int32.toUInt32 31)).toInt32 &&& 7)
    obtain ⟨sl1, wl1, dl1, st1, fa1, ri1, si1, so1, ac1, pa1, pb1, pc1, qa1, qb1, qc1, fc1, cx1, L1, F1, R11, R21, R31, GC1, GO1, W1, H1, SC1, FR1, rfl, I1⟩ := V1
    exact h1 _ (h1 _ ⟨13, lz_384 hp hL 12 0 rfl (t + 1) sl1 wl1 dl1 st1 fa1 ri1 si1 so1 ac1 pa1 pb1 pc1 qa1 qb1 qc1 fc1 cx1 L1 F1 R11 R21 R31 GC1 GO1 W1 H1 SC1 FR1 (by omega) I1⟩)
  | succ d ih =>
    intro i hi t sl wl dl st fa ri si so ac pa pb pc qa qb qc fc cx L F R1 R2 R3 GC GO W H SC FR ht I
    have hJ : ∀ (t' : Nat) (sl' wl' dl' st' fa' ri' si' so' ac' pa' pb' pc' qa' qb' qc' fc' cx' : Int32) (L' F' R1' R2' R3' GC' GO' W' H' SC' FR' : Nat → Int32), t' ≤ 900 - 40 * d → pj_I sl' wl' dl' ri' si' so' pa' pb' pc' qa' qb' qc' fc' L' F' R1' R2' R3' GC' H' FR' → wL_law_29 post LL xs kc ks (d + 1) (nI t') (nI i + 1) sl' wl' dl' st' fa' ri' si' so' ac' (rg_P pa' pb' pc') (rg_P qa' qb' qc') fc' cx' L' F' R1' R2' R3' GC' GO' W' H' SC' FR' sl' wl' dl' st' fa' ri' si' so' ac' (rg_P pa' pb' pc') (rg_P qa' qb' qc') fc' cx' L' F' R1' R2' R3' GC' GO' W' H' SC' FR' := by
      intro t' sl' wl' dl' st' fa' ri' si' so' ac' pa' pb' pc' qa' qb' qc' fc' cx' L' F' R1' R2' R3' GC' GO' W' H' SC' FR' ht' I'
      rw [nI_1]
      exact ih (i + 1) (by omega) t' sl' wl' dl' st' fa' ri' si' so' ac' pa' pb' pc' qa' qb' qc' fc' cx' L' F' R1' R2' R3' GC' GO' W' H' SC' FR' (by omega) I'
    refine br_f (nI_ge (b := 4) (by omega) (by decide)) (nm_r (nI_1 t) (lc_cell hL (by omega) (fun w1 => lc_mod (k := 16) (by decide) (by decide) (fun r1 hb1 => ?_))))
    obtain ⟨a, ha, rfl⟩ := hb1
    refine nm_r (nI_add 1 a) (nm_r (nI_1 (t + 1)) (lc_cell hL (by omega) (fun w2 => nm_e (br_c (fun _ => nm_e ?_) (fun _ => ?_)))))
    · exact lz_83 hL (by omega) (by omega) (by omega) hJ (by omega) I
    · exact lz_83 hL (by omega) (by omega) (by omega) hJ (by omega) I
end
end
section
theorem lz_init {ps : St2 → Prop} (h : ps (4, 16, 4, 0, 0, 0, 0, 0, 0, 0, 0, 0, 0, (fun _ => 0), (fun _ => 0), (fun _ => 0), (fun _ => 0), (fun _ => 0), (fun _ => 0), (fun _ => 0), (fun _ => 0), (fun _ => 0), (fun _ => 0), (fun _ => 0))) : wpX_init ps 11 568 (0, 0, 0, 0, 0, 0, 0, 0, 0, 0, 0, 0, 0) 4 16 4 :=
  ⟨by decide, by decide, by decide, by decide, by decide, by decide, by decide, by decide, by decide, by decide, by decide, by decide, by decide, by decide, by decide, by decide, by decide, by decide, by decide, by decide, by decide, by decide, br_t (by decide) (br_t (by decide) (br_t (by decide) (br_t (by decide) (br_t (by decide) (br_t (by decide) h)))))⟩
theorem lz_I0 : pj_I 4 16 4 0 0 0 0 0 0 0 0 0 0 (fun _ => 0) (fun _ => 0) (fun _ => 0) (fun _ => 0) (fun _ => 0) (fun _ => 0) (fun _ => 0) (fun _ => 0) :=
  ⟨⟨4, by decide, rfl⟩, ⟨16, by decide, rfl⟩, ⟨4, by decide, rfl⟩, fun s => ⟨rg_B0 (by decide), rg_B0 (by decide), rg_B0 (by decide), Int32.le_refl _, rg_B0 (by decide)⟩, fun s => ⟨rg_B0 (by decide), rg_B0 (by decide)⟩, fun s => rg_B0 (by decide), rg_Fs0, rg_B0 (by decide), rg_B0 (by decide), rg_B0 (by decide), rg_B0 (by decide), rg_B0 (by decide), rg_B0 (by decide), rg_B0 (by decide), rg_B0 (by decide), rg_B0 (by decide)⟩
theorem i_vc (xs : Nat → Int32) (L : Nat) (hL : L ≤ 260) : wpL_law (fun r => r = 1) L xs := by
  have h := lz_29 (post := fun r => r = 1) (LL := L) (xs := xs) (kc := 24) (ks := 1184) rfl hL 4 0 rfl 0 4 16 4 0 0 0 0 0 0 0 0 0 0 0 0 0 0 (fun _ => 0) (fun _ => 0) (fun _ => 0) (fun _ => 0) (fun _ => 0) (fun _ => 0) (fun _ => 0) (fun _ => 0) (fun _ => 0) (fun _ => 0) (fun _ => 0) (by decide) lz_I0
  rw [rg_P0] at h
  exact ⟨11, 568, by decide, by decide, lz_init ⟨by decide, by decide, 11, 568, by decide, by decide, lz_init ⟨5, h⟩⟩⟩
end
