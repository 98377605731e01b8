def bt (x : Int32) (i : Nat) : Bool := x.toBitVec.getLsbD i
theorem b_ext {x y : Int32} (h : ∀ i, i < 32 → bt x i = bt y i) : x = y := Int32.toBitVec_inj.mp (BitVec.eq_of_getLsbD_eq (fun i hi => h i hi))
theorem b_or (x y : Int32) (i : Nat) : bt (x ||| y) i = (bt x i || bt y i) := by unfold bt; rw [Int32.toBitVec_or, BitVec.getLsbD_or]
theorem b_and (x y : Int32) (i : Nat) : bt (x &&& y) i = (bt x i && bt y i) := by unfold bt; rw [Int32.toBitVec_and, BitVec.getLsbD_and]
theorem rg_orN (a b : Nat) : nI a ||| nI b = nI (a ||| b) := by
  apply Int32.toBitVec_inj.1
  show BitVec.ofNat 32 a ||| BitVec.ofNat 32 b = BitVec.ofNat 32 (a ||| b)
  apply BitVec.eq_of_getLsbD_eq
  intro i hi
  simp [hi]
/-- a pointer as the class packs it -/
def rg_pk (a b c : Nat) : Int32 := nI (a * 65536 + b * 256 + c)
theorem rg_pack {a b c : Nat} (ha : a < 256) (hb : b < 256) (hc : c < 256) : nI a <<< ((16 : Int32) &&& 31) ||| nI b <<< ((8 : Int32) &&& 31) ||| nI c = rg_pk a b c := by
  rw [pk_shlN (n := a) _ 16 (by decide) (by omega), pk_shlN (n := b) _ 8 (by decide) (by omega), rg_orN, rg_orN]
  have h1 : a * 2 ^ 16 ||| b * 2 ^ 8 = 2 ^ 8 * (a * 256 + b) := by
    have h := Nat.two_pow_add_eq_or_of_lt (i := 16) (b := b * 2 ^ 8) (by omega) a
    rw [Nat.mul_comm a, ← h]
    omega
  have h2 := Nat.two_pow_add_eq_or_of_lt (i := 8) (b := c) (by omega) (a * 256 + b)
  rw [h1, ← h2]
  exact congrArg nI (by omega)
theorem rg_pSeg {a b c : Nat} (ha : a < 256) (hb : b < 256) (hc : c < 256) : rg_pk a b c >>> ((16 : Int32) &&& 31) &&& 255 = nI a := by
  unfold rg_pk
  rw [pk_shrN (by omega) _ 16 (by decide), pk_andN (by omega) 8 (by decide)]
  exact congrArg nI (by omega)
theorem rg_pOff {a b c : Nat} (ha : a < 256) (hb : b < 256) (hc : c < 256) : rg_pk a b c >>> ((8 : Int32) &&& 31) &&& 255 = nI b := by
  unfold rg_pk
  rw [pk_shrN (by omega) _ 8 (by decide), pk_andN (by omega) 8 (by decide)]
  exact congrArg nI (by omega)
theorem rg_pRing {a b c : Nat} (ha : a < 256) (hb : b < 256) (hc : c < 8) : rg_pk a b c &&& 7 = nI c := by
  unfold rg_pk
  rw [pk_andN (by omega) 3 (by decide)]
  exact congrArg nI (by omega)
theorem rg_uSeg {a b c : Nat} (ha : a < 256) (hb : b < 256) (hc : c < 256) : ((rg_pk a b c).toUInt32 >>> ((16 : Int32).toUInt32 &&& Int32.toUInt32 31)).toInt32 &&& 255 = nI a := by
  unfold rg_pk
  rw [pk_ushrN (by omega) _ 16 (by decide), pk_andN (by omega) 8 (by decide)]
  exact congrArg nI (by omega)
theorem rg_uOff {a b c : Nat} (ha : a < 256) (hb : b < 256) (hc : c < 256) : ((rg_pk a b c).toUInt32 >>> ((8 : Int32).toUInt32 &&& Int32.toUInt32 31)).toInt32 &&& 255 = nI b := by
  unfold rg_pk
  rw [pk_ushrN (by omega) _ 8 (by decide), pk_andN (by omega) 8 (by decide)]
  exact congrArg nI (by omega)
theorem rg_uRing {a b c : Nat} (ha : a < 256) (hb : b < 256) (hc : c < 256) : rg_pk a b c &&& 255 = nI c := by
  unfold rg_pk
  rw [pk_andN (by omega) 8 (by decide)]
  exact congrArg nI (by omega)
theorem rg_m8 : ∀ i, i < 32 → bt (-8) i = decide (3 ≤ i) := by decide +kernel
theorem rg_bt {n i : Nat} (hi : i < 32) : bt (nI n) i = n.testBit i := by
  show (BitVec.ofNat 32 n).getLsbD i = _
  rw [BitVec.getLsbD_ofNat]
  simp [hi]
theorem rg_raise {a b c l : Nat} (hc : c < 8) (hl : l < 8) : (rg_pk a b c &&& (-8)) ||| nI l = rg_pk a b l := by
  have e : ∀ x : Nat, a * 65536 + b * 256 + x = 2 ^ 3 * (a * 8192 + b * 32) + x := fun x => by omega
  unfold rg_pk
  rw [e c, e l]
  refine b_ext fun i hi => ?_
  rw [b_or, b_and, rg_bt hi, rg_bt hi, rg_bt hi, rg_m8 i hi, Nat.testBit_two_pow_mul_add _ (by omega), Nat.testBit_two_pow_mul_add _ (by omega)]
  by_cases h : i < 3
  · rw [if_pos h, if_pos h, decide_eq_false (by omega), Bool.and_false, Bool.false_or]
  · have hz : l.testBit i = false := by
      apply Nat.testBit_lt_two_pow
      exact Nat.lt_of_lt_of_le hl (Nat.pow_le_pow_right (n := 2) (i := 3) (j := i) (by decide) (by omega))
    rw [if_neg h, if_neg h, decide_eq_true (by omega), Bool.and_true, hz, Bool.or_false]
theorem rg_ic {s o : Nat} : nI s * 256 + nI o = nI (s * 256 + o) := by
  rw [show (256 : Int32) = nI 256 from rfl, pk_mul, nI_add]
theorem rg_icD {s o : Nat} (hs : s < 256) (ho : o < 256) : nI (s * 256 + o) / 256 = nI s := by
  rw [show (256 : Int32) = nI 256 from rfl, pk_div (by omega) (by omega) (by omega)]
  exact congrArg nI (by omega)
theorem rg_icR {s o : Nat} (hs : s < 256) (ho : o < 256) : nI (s * 256 + o) - nI (s * 256 + o) / 256 * 256 = nI o := by
  rw [show (256 : Int32) = nI 256 from rfl, pk_rem (by omega) (by omega) (by omega)]
  exact congrArg nI (by omega)
theorem rg_x32 {s o : Nat} : nI s * 32 + nI o = nI (s * 32 + o) := by
  rw [show (32 : Int32) = nI 32 from rfl, pk_mul, nI_add]
theorem rg_x16 {s o : Nat} : nI s * 16 + nI o = nI (s * 16 + o) := by
  rw [show (16 : Int32) = nI 16 from rfl, pk_mul, nI_add]
theorem rg_x6 {s o : Nat} : nI s * 6 + nI o = nI (s * 6 + o) := by
  rw [show (6 : Int32) = nI 6 from rfl, pk_mul, nI_add]
theorem rg_x4 {s o : Nat} : nI s * 4 + nI o = nI (s * 4 + o) := by
  rw [show (4 : Int32) = nI 4 from rfl, pk_mul, nI_add]
theorem rg_in32 {s o : Nat} (hs : s < 8) (ho : o < 32) : vp_in (nI s * 32 + nI o) 256 := by
  rw [rg_x32]; exact vp_in_nI (by omega) (by omega)
theorem rg_in16 {s o : Nat} (hs : s < 8) (ho : o < 16) : vp_in (nI s * 16 + nI o) 128 := by
  rw [rg_x16]; exact vp_in_nI (by omega) (by omega)
theorem rg_in6 {s o : Nat} (hs : s < 16) (ho : o < 6) : vp_in (nI s * 6 + nI o) 96 := by
  rw [rg_x6]; exact vp_in_nI (by omega) (by omega)
theorem rg_in4 {s o : Nat} (hs : s < 8) (ho : o < 4) : vp_in (nI s * 4 + nI o) 32 := by
  rw [rg_x4]; exact vp_in_nI (by omega) (by omega)
theorem rg_c6 {s o : Nat} (hs : s < 16) (ho : o < 6) : (nI s * 6 + nI o).toNatClampNeg = s * 6 + o := by
  rw [rg_x6]; exact nI_clamp (by omega)
theorem rg_ucomm {f : Nat → Int32} {i j : Nat} {x y : Int32} (h : i ≠ j) : upd (upd f i x) j y = upd (upd f j y) i x := by
  funext z
  unfold upd
  by_cases h1 : z = i
  · by_cases h2 : z = j
    · exact absurd (h1.symm.trans h2) h
    · simp [h1, h]
  · by_cases h2 : z = j
    · simp [h2, Ne.symm h]
    · simp [h1, h2]
/-- the value of a branch -/
theorem rg_if {c : Prop} {A B : Prop} (h : (c ∧ A) ∨ (¬ c ∧ B)) : (c → A) ∧ (¬ c → B) :=
  h.elim (fun z => br_t z.1 z.2) (fun z => br_f z.1 z.2)
/-- x is a natural number below n -/
def rg_B (n : Nat) (x : Int32) : Prop := ∃ j : Nat, j < n ∧ x = nI j
theorem rg_B0 {n : Nat} (h : 0 < n) : rg_B n 0 := ⟨0, h, rfl⟩
theorem rg_Bm {n m : Nat} {x : Int32} (h : rg_B n x) (hm : n ≤ m) : rg_B m x := by
  obtain ⟨j, hj, e⟩ := h
  exact ⟨j, by omega, e⟩
theorem rg_Bn {n : Nat} {x : Int32} (h : rg_B n x) (hn : n < 2 ^ 30) : ¬ x < 0 := by
  obtain ⟨j, hj, rfl⟩ := h
  exact nI_pos (by omega)
theorem rg_Bin {n : Nat} {x : Int32} (h : rg_B n x) (hn : n < 2 ^ 30) : vp_in x n := by
  obtain ⟨j, hj, rfl⟩ := h
  exact vp_in_nI hj (by omega)
/-- from the tests 0 ≤ x and x < y with y bounded -/
theorem rg_Bl {n : Nat} {x y : Int32} (hy : rg_B (n + 1) y) (hn : n < 2 ^ 30) (h0 : ¬ x < 0) (h : x < y) : rg_B n x := by
  obtain ⟨j, hj, rfl⟩ := nI_of h0
  obtain ⟨l, hl, rfl⟩ := hy
  rw [nI_ltI hj (by omega)] at h
  exact ⟨j, by omega, rfl⟩
theorem rg_Ble {n : Nat} {x y : Int32} (hy : rg_B n y) (hn : n < 2 ^ 30) (h0 : ¬ x < 0) (h : x ≤ y) : rg_B n x := by
  obtain ⟨j, hj, rfl⟩ := nI_of h0
  obtain ⟨l, hl, rfl⟩ := hy
  rw [nI_leI hj (by omega)] at h
  exact ⟨j, by omega, rfl⟩
theorem rg_Bs {n : Nat} {x : Int32} (h : rg_B n x) : rg_B (n + 1) (x + 1) := by
  obtain ⟨j, hj, rfl⟩ := h
  exact ⟨j + 1, by omega, nI_1 j⟩
theorem rg_B255 (x : Int32) : rg_B 256 (x &&& 255) := pk_andE x 8 (by decide)
theorem rg_B15 (x : Int32) : rg_B 16 (x &&& 15) := pk_andE x 4 (by decide)
theorem rg_nl {x y : Int32} : ¬ x < y ↔ y ≤ x := Int32.not_lt
theorem rg_nle {x y : Int32} : ¬ x ≤ y ↔ y < x := Int32.not_le
/-- a pointer as both sides show it -/
def rg_P (a b c : Int32) : Int32 := a <<< ((16 : Int32) &&& 31) ||| b <<< ((8 : Int32) &&& 31) ||| c
theorem rg_Pk {a b c : Nat} (ha : a < 256) (hb : b < 256) (hc : c < 256) : rg_P (nI a) (nI b) (nI c) = rg_pk a b c := rg_pack ha hb hc
theorem rg_PS {a b c : Int32} (ha : rg_B 256 a) (hb : rg_B 256 b) (hc : rg_B 8 c) : rg_P a b c >>> ((16 : Int32) &&& 31) &&& 255 = a := by
  obtain ⟨a, ha, rfl⟩ := ha
  obtain ⟨b, hb, rfl⟩ := hb
  obtain ⟨c, hc, rfl⟩ := hc
  rw [rg_Pk ha hb (by omega)]
  exact rg_pSeg ha hb (by omega)
theorem rg_PO {a b c : Int32} (ha : rg_B 256 a) (hb : rg_B 256 b) (hc : rg_B 8 c) : rg_P a b c >>> ((8 : Int32) &&& 31) &&& 255 = b := by
  obtain ⟨a, ha, rfl⟩ := ha
  obtain ⟨b, hb, rfl⟩ := hb
  obtain ⟨c, hc, rfl⟩ := hc
  rw [rg_Pk ha hb (by omega)]
  exact rg_pOff ha hb (by omega)
theorem rg_PR {a b c : Int32} (ha : rg_B 256 a) (hb : rg_B 256 b) (hc : rg_B 8 c) : rg_P a b c &&& 7 = c := by
  obtain ⟨a, ha, rfl⟩ := ha
  obtain ⟨b, hb, rfl⟩ := hb
  obtain ⟨c, hc, rfl⟩ := hc
  rw [rg_Pk ha hb (by omega)]
  exact rg_pRing ha hb hc
theorem rg_US {a b c : Int32} (ha : rg_B 256 a) (hb : rg_B 256 b) (hc : rg_B 8 c) : ((rg_P a b c).toUInt32 >>> ((16 : Int32).toUInt32 &&& Int32.toUInt32 31)).toInt32 &&& 255 = a := by
  obtain ⟨a, ha, rfl⟩ := ha
  obtain ⟨b, hb, rfl⟩ := hb
  obtain ⟨c, hc, rfl⟩ := hc
  rw [rg_Pk ha hb (by omega)]
  exact rg_uSeg ha hb (by omega)
theorem rg_UO {a b c : Int32} (ha : rg_B 256 a) (hb : rg_B 256 b) (hc : rg_B 8 c) : ((rg_P a b c).toUInt32 >>> ((8 : Int32).toUInt32 &&& Int32.toUInt32 31)).toInt32 &&& 255 = b := by
  obtain ⟨a, ha, rfl⟩ := ha
  obtain ⟨b, hb, rfl⟩ := hb
  obtain ⟨c, hc, rfl⟩ := hc
  rw [rg_Pk ha hb (by omega)]
  exact rg_uOff ha hb (by omega)
theorem rg_UR {a b c : Int32} (ha : rg_B 256 a) (hb : rg_B 256 b) (hc : rg_B 8 c) : rg_P a b c &&& 255 = c := by
  obtain ⟨a, ha, rfl⟩ := ha
  obtain ⟨b, hb, rfl⟩ := hb
  obtain ⟨c, hc, rfl⟩ := hc
  rw [rg_Pk ha hb (by omega)]
  exact rg_uRing ha hb (by omega)
theorem rg_PL {a b c l : Int32} (ha : rg_B 256 a) (hb : rg_B 256 b) (hc : rg_B 8 c) (hl : rg_B 8 l) : (rg_P a b c &&& (-8)) ||| l = rg_P a b l := by
  obtain ⟨a, ha, rfl⟩ := ha
  obtain ⟨b, hb, rfl⟩ := hb
  obtain ⟨c, hc, rfl⟩ := hc
  obtain ⟨l, hl, rfl⟩ := hl
  rw [rg_Pk ha hb (by omega), rg_Pk ha hb (by omega)]
  exact rg_raise hc hl
theorem rg_i32 {s o : Int32} (hs : rg_B 8 s) (ho : rg_B 32 o) : vp_in (s * 32 + o) 256 := by
  obtain ⟨s, hs, rfl⟩ := hs
  obtain ⟨o, ho, rfl⟩ := ho
  exact rg_in32 hs ho
theorem rg_i16 {s o : Int32} (hs : rg_B 8 s) (ho : rg_B 16 o) : vp_in (s * 16 + o) 128 := by
  obtain ⟨s, hs, rfl⟩ := hs
  obtain ⟨o, ho, rfl⟩ := ho
  exact rg_in16 hs ho
theorem rg_i6 {s o : Int32} (hs : rg_B 16 s) (ho : rg_B 6 o) : vp_in (s * 6 + o) 96 := by
  obtain ⟨s, hs, rfl⟩ := hs
  obtain ⟨o, ho, rfl⟩ := ho
  exact rg_in6 hs ho
theorem rg_i4 {s o : Int32} (hs : rg_B 8 s) (ho : rg_B 4 o) : vp_in (s * 4 + o) 32 := by
  obtain ⟨s, hs, rfl⟩ := hs
  obtain ⟨o, ho, rfl⟩ := ho
  exact rg_in4 hs ho
theorem rg_rD {s o : Int32} (hs : rg_B 8 s) (ho : rg_B 256 o) : (s * 256 + o) / 256 = s := by
  obtain ⟨s, hs, rfl⟩ := hs
  obtain ⟨o, ho, rfl⟩ := ho
  rw [rg_ic]
  exact rg_icD (by omega) ho
theorem rg_rR {s o : Int32} (hs : rg_B 8 s) (ho : rg_B 256 o) : (s * 256 + o) - (s * 256 + o) / 256 * 256 = o := by
  obtain ⟨s, hs, rfl⟩ := hs
  obtain ⟨o, ho, rfl⟩ := ho
  rw [rg_ic]
  exact rg_icR (by omega) ho
/-- all cells of an array -/
theorem rg_au {p : Int32 → Prop} {f : Nat → Int32} {k : Nat} {x : Int32} (h : ∀ s, p (f s)) (hx : p x) : ∀ s, p (upd f k x s) := by
  intro s
  unfold upd
  by_cases e : s = k
  · rw [if_pos e]; exact hx
  · rw [if_neg e]; exact h s
/-- n cells from b on set to 0 -/
def rg_cl (f : Nat → Int32) (b : Int32) : Nat → Nat → Int32
  | 0 => f
  | n + 1 => upd (rg_cl f b n) (b + nI n).toNatClampNeg 0
theorem rg_cla {p : Int32 → Prop} {f : Nat → Int32} (b : Int32) (h : ∀ s, p (f s)) (h0 : p 0) : ∀ n s, p (rg_cl f b n s) := by
  intro n
  induction n with
  | zero => exact h
  | succ n ih => exact rg_au ih h0
/-- the first n cells set to 0 -/
def rg_z (f : Nat → Int32) : Nat → Nat → Int32
  | 0 => f
  | n + 1 => upd (rg_z f n) (nI n).toNatClampNeg 0
theorem rg_za {p : Int32 → Prop} {f : Nat → Int32} (h : ∀ s, p (f s)) (h0 : p 0) : ∀ n s, p (rg_z f n s) := by
  intro n
  induction n with
  | zero => exact h
  | succ n ih => exact rg_au ih h0
