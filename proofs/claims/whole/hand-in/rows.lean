section
theorem pk_us {f : Nat → Int32} {k : Nat} {x : Int32} : upd f k x k = x := if_pos rfl
theorem pk_un {f : Nat → Int32} {k j : Nat} {x : Int32} (h : j ≠ k) : upd f k x j = f j := if_neg h
theorem pk_sub {a b : Nat} (h : b ≤ a) : nI a - nI b = nI (a - b) := by
  obtain ⟨c, rfl⟩ : ∃ c, a = c + b := ⟨a - b, by omega⟩
  rw [← nI_add, Int32.add_sub_cancel, Nat.add_sub_cancel]
theorem pk_m1 (n : Nat) : nI (n + 1) + (-1) = nI n := by
  rw [← nI_1, Int32.add_assoc, show (1 : Int32) + (-1) = 0 from rfl, Int32.add_zero]
theorem pk_mul (a b : Nat) : nI a * nI b = nI (a * b) := (Int32.ofNat_mul a b).symm
theorem pk_div {a d : Nat} (ha : a < 2 ^ 31) (h0 : 0 < d) (hd : d < 2 ^ 31) : nI a / nI d = nI (a / d) := by
  apply Int32.toInt_inj.mp
  rw [lg_idiv_nonneg (by rw [nI_toInt ha]; omega) (by rw [nI_toInt hd]; omega), nI_toInt ha, nI_toInt hd, nI_toInt (Nat.lt_of_le_of_lt (Nat.div_le_self a d) ha)]
  first | rfl | exact (Int.natCast_ediv _ _).symm
theorem pk_rem {a d : Nat} (ha : a < 2 ^ 31) (h0 : 0 < d) (hd : d < 2 ^ 31) : nI a - nI a / nI d * nI d = nI (a % d) := by
  rw [pk_div ha h0 hd, pk_mul, pk_sub (Nat.div_mul_le_self a d)]
  exact congrArg nI (by have := Nat.div_add_mod' a d; omega)
theorem pk_ix (x : Int32) {n : Nat} (hn : n < 2 ^ 31) : x < 0 ∨ nI n ≤ x ∨ ∃ j : Nat, j < n ∧ x = nI j := by
  by_cases h : x < 0
  · exact Or.inl h
  · obtain ⟨j, hj, rfl⟩ := nI_of h
    by_cases h2 : j < n
    · exact Or.inr (Or.inr ⟨j, h2, rfl⟩)
    · exact Or.inr (Or.inl (nI_le (by omega) hj))
theorem pk_le {x y : Int32} {A B : Prop} (a b : Nat) (f : a ≤ b → A) (g : b < a → B) (hx : x = nI a := by rfl) (hy : y = nI b := by rfl) (ha : a < 2 ^ 31 := by omega) (hb : b < 2 ^ 31 := by omega) : (x ≤ y → A) ∧ (¬ x ≤ y → B) := by
  subst hx hy
  rw [nI_leI ha hb]
  exact ⟨f, fun z => g (by omega)⟩
theorem pk_lt {x y : Int32} {A B : Prop} (a b : Nat) (f : a < b → A) (g : b ≤ a → B) (hx : x = nI a := by rfl) (hy : y = nI b := by rfl) (ha : a < 2 ^ 31 := by omega) (hb : b < 2 ^ 31 := by omega) : (x < y → A) ∧ (¬ x < y → B) := by
  subst hx hy
  rw [nI_ltI ha hb]
  exact ⟨f, fun z => g (by omega)⟩
theorem pk_eq {x y : Int32} {A B : Prop} (a b : Nat) (f : a = b → A) (g : a ≠ b → B) (hx : x = nI a := by rfl) (hy : y = nI b := by rfl) (ha : a < 2 ^ 31 := by omega) (hb : b < 2 ^ 31 := by omega) : (x = y → A) ∧ (¬ x = y → B) := by
  subst hx hy
  rw [nI_eq ha hb]
  exact ⟨f, g⟩
theorem pk_in {x : Int32} (n N : Nat) (h : n < N) (hx : x = nI n := by rfl) (hN : N < 2 ^ 31 := by omega) : vp_in x N := by
  subst hx
  exact vp_in_nI h hN
theorem pk_cl {x : Int32} (n : Nat) (hx : x = nI n := by rfl) (h : n < 2 ^ 31 := by omega) : x.toNatClampNeg = n := by
  subst hx
  exact nI_clamp h
theorem pk_tn {n : Nat} (h : n < 2 ^ 32) : (nI n).toBitVec.toNat = n := Nat.mod_eq_of_lt h
theorem pk_and (x : Int32) {m : Int32} (k : Nat) (hm : m.toBitVec.toNat = 2 ^ k - 1) : x &&& m = nI (x.toBitVec.toNat % 2 ^ k) := by
  apply Int32.toBitVec_inj.mp
  apply BitVec.eq_of_toNat_eq
  rw [Int32.toBitVec_and, BitVec.toNat_and, hm, Nat.and_two_pow_sub_one_eq_mod]
  show _ = (BitVec.ofNat 32 _).toNat
  rw [BitVec.toNat_ofNat]
  exact (Nat.mod_eq_of_lt (Nat.lt_of_le_of_lt (Nat.mod_le _ _) x.toBitVec.isLt)).symm
theorem pk_andN {n : Nat} (h : n < 2 ^ 32) {m : Int32} (k : Nat) (hm : m.toBitVec.toNat = 2 ^ k - 1) : nI n &&& m = nI (n % 2 ^ k) := by
  rw [pk_and _ k hm, pk_tn h]
theorem pk_andE (x : Int32) {m : Int32} (k : Nat) (hm : m.toBitVec.toNat = 2 ^ k - 1) : ∃ j : Nat, j < 2 ^ k ∧ x &&& m = nI j := ⟨_, Nat.mod_lt _ (Nat.two_pow_pos k), pk_and x k hm⟩
theorem pk_andIn (x : Int32) {m : Int32} (k : Nat) (hm : m.toBitVec.toNat = 2 ^ k - 1) (hk : k ≤ 30) : vp_in (x &&& m) (2 ^ k) := by
  obtain ⟨j, hj, e⟩ := pk_andE x k hm
  rw [e]
  exact vp_in_nI hj (Nat.lt_of_le_of_lt (Nat.pow_le_pow_right (by decide) hk) (by decide))
theorem pk_shl (a s : Int32) (k : Nat) (hs : (s.toBitVec.smod 32).toNat = k) : (a <<< s).toBitVec.toNat = a.toBitVec.toNat * 2 ^ k % 2 ^ 32 := by
  show (a.toBitVec <<< (s.toBitVec.smod 32).toNat).toNat = _
  rw [hs, BitVec.toNat_shiftLeft, Nat.shiftLeft_eq]
theorem pk_shlN {n : Nat} (s : Int32) (k : Nat) (hs : (s.toBitVec.smod 32).toNat = k) (h : n * 2 ^ k < 2 ^ 32) : nI n <<< s = nI (n * 2 ^ k) := by
  apply Int32.toBitVec_inj.mp
  apply BitVec.eq_of_toNat_eq
  have hn : n < 2 ^ 32 := Nat.lt_of_le_of_lt (Nat.le_mul_of_pos_right n (Nat.two_pow_pos k)) h
  rw [pk_shl _ _ k hs, pk_tn hn, pk_tn h, Nat.mod_eq_of_lt h]
theorem pk_shr (a s : Int32) (k : Nat) (hs : (s.toBitVec.smod 32).toNat = k) : (a >>> s).toInt = a.toInt >>> k := by
  show (a.toBitVec.sshiftRight (s.toBitVec.smod 32).toNat).toInt = _
  rw [hs, BitVec.toInt_sshiftRight]
  rfl
theorem pk_shrN {n : Nat} (h : n < 2 ^ 31) (s : Int32) (k : Nat) (hs : (s.toBitVec.smod 32).toNat = k) : nI n >>> s = nI (n / 2 ^ k) := by
  apply Int32.toInt_inj.mp
  have h2 : n / 2 ^ k ≤ n := Nat.div_le_self _ _
  rw [pk_shr _ _ k hs, nI_toInt h, nI_toInt (by omega), Int.shiftRight_eq_div_pow]
  rfl
theorem pk_ushr (x s : Int32) (k : Nat) (hs : ((s.toUInt32 &&& Int32.toUInt32 31).toBitVec % 32).toNat = k) : (x.toUInt32 >>> (s.toUInt32 &&& Int32.toUInt32 31)).toInt32.toBitVec.toNat = x.toBitVec.toNat / 2 ^ k := by
  have e : (x.toUInt32 >>> (s.toUInt32 &&& Int32.toUInt32 31)).toInt32.toBitVec = x.toBitVec >>> k := by
    rw [← hs]
    exact UInt32.toBitVec_shiftRight _ _
  rw [e, BitVec.toNat_ushiftRight, Nat.shiftRight_eq_div_pow]
theorem pk_ushrN {n : Nat} (hn : n < 2 ^ 32) (s : Int32) (k : Nat) (hs : ((s.toUInt32 &&& Int32.toUInt32 31).toBitVec % 32).toNat = k) : ((nI n).toUInt32 >>> (s.toUInt32 &&& Int32.toUInt32 31)).toInt32 = nI (n / 2 ^ k) := by
  apply Int32.toBitVec_inj.mp
  apply BitVec.eq_of_toNat_eq
  rw [pk_ushr _ s k hs, pk_tn hn, pk_tn (Nat.lt_of_le_of_lt (Nat.div_le_self _ _) hn)]
def bt (x : Int32) (i : Nat) : Bool := x.toBitVec.getLsbD i
theorem b_ext {x y : Int32} (h : ∀ i, i < 32 → bt x i = bt y i) : x = y := Int32.toBitVec_inj.mp (BitVec.eq_of_getLsbD_eq (fun i hi => h i hi))
theorem b_or (x y : Int32) (i : Nat) : bt (x ||| y) i = (bt x i || bt y i) := by unfold bt; rw [Int32.toBitVec_or, BitVec.getLsbD_or]
theorem b_and (x y : Int32) (i : Nat) : bt (x &&& y) i = (bt x i && bt y i) := by unfold bt; rw [Int32.toBitVec_and, BitVec.getLsbD_and]
theorem nx_and (a b : Nat) : nI a &&& nI b = nI (a &&& b) := by
  apply Int32.toBitVec_inj.1
  show BitVec.ofNat 32 a &&& BitVec.ofNat 32 b = BitVec.ofNat 32 (a &&& b)
  apply BitVec.eq_of_getLsbD_eq
  intro i hi
  simp [hi]
theorem rg_orN (a b : Nat) : nI a ||| nI b = nI (a ||| b) := by
  apply Int32.toBitVec_inj.1
  show BitVec.ofNat 32 a ||| BitVec.ofNat 32 b = BitVec.ofNat 32 (a ||| b)
  apply BitVec.eq_of_getLsbD_eq
  intro i hi
  simp [hi]
/-- a pointer as the class packs it -/
def rg_pk (a b c : Nat) : Int32 := nI (a * 65536 + b * 256 + c)
theorem rg_pack {a b c : Nat} (ha : a < 256) (hb : b < 256) (hc : c < 256) : nI a <<< ((16 : Int32) &&& 31) ||| nI b <<< ((8 : Int32) &&& 31) ||| nI c = rg_pk a b c := by
  rw [pk_shlN (n := a) _ 16 (by decide) (by omega), pk_shlN (n := b) _ 8 (by decide) (by omega), rg_orN, rg_orN]
  have h1 : a * 2 ^ 16 ||| b * 2 ^ 8 = 2 ^ 8 * (a * 256 + b) := by
    have h := Nat.two_pow_add_eq_or_of_lt (i := 16) (b := b * 2 ^ 8) (by omega) a
    rw [Nat.mul_comm a, ← h]
    omega
  have h2 := Nat.two_pow_add_eq_or_of_lt (i := 8) (b := c) (by omega) (a * 256 + b)
  rw [h1, ← h2]
  exact congrArg nI (by omega)
theorem rg_pSeg {a b c : Nat} (ha : a < 256) (hb : b < 256) (hc : c < 256) : rg_pk a b c >>> ((16 : Int32) &&& 31) &&& 255 = nI a := by
  unfold rg_pk
  rw [pk_shrN (by omega) _ 16 (by decide), pk_andN (by omega) 8 (by decide)]
  exact congrArg nI (by omega)
theorem rg_pOff {a b c : Nat} (ha : a < 256) (hb : b < 256) (hc : c < 256) : rg_pk a b c >>> ((8 : Int32) &&& 31) &&& 255 = nI b := by
  unfold rg_pk
  rw [pk_shrN (by omega) _ 8 (by decide), pk_andN (by omega) 8 (by decide)]
  exact congrArg nI (by omega)
theorem rg_pRing {a b c : Nat} (ha : a < 256) (hb : b < 256) (hc : c < 8) : rg_pk a b c &&& 7 = nI c := by
  unfold rg_pk
  rw [pk_andN (by omega) 3 (by decide)]
  exact congrArg nI (by omega)
theorem rg_uSeg {a b c : Nat} (ha : a < 256) (hb : b < 256) (hc : c < 256) : ((rg_pk a b c).toUInt32 >>> ((16 : Int32).toUInt32 &&& Int32.toUInt32 31)).toInt32 &&& 255 = nI a := by
  unfold rg_pk
  rw [pk_ushrN (by omega) _ 16 (by decide), pk_andN (by omega) 8 (by decide)]
  exact congrArg nI (by omega)
theorem rg_uOff {a b c : Nat} (ha : a < 256) (hb : b < 256) (hc : c < 256) : ((rg_pk a b c).toUInt32 >>> ((8 : Int32).toUInt32 &&& Int32.toUInt32 31)).toInt32 &&& 255 = nI b := by
  unfold rg_pk
  rw [pk_ushrN (by omega) _ 8 (by decide), pk_andN (by omega) 8 (by decide)]
  exact congrArg nI (by omega)
theorem rg_uRing {a b c : Nat} (ha : a < 256) (hb : b < 256) (hc : c < 256) : rg_pk a b c &&& 255 = nI c := by
  unfold rg_pk
  rw [pk_andN (by omega) 8 (by decide)]
  exact congrArg nI (by omega)
theorem rg_m8 : ∀ i, i < 32 → bt (-8) i = decide (3 ≤ i) := by decide +kernel
theorem rg_bt {n i : Nat} (hi : i < 32) : bt (nI n) i = n.testBit i := by
  show (BitVec.ofNat 32 n).getLsbD i = _
  rw [BitVec.getLsbD_ofNat]
  simp [hi]
theorem rg_raise {a b c l : Nat} (hc : c < 8) (hl : l < 8) : (rg_pk a b c &&& (-8)) ||| nI l = rg_pk a b l := by
  have e : ∀ x : Nat, a * 65536 + b * 256 + x = 2 ^ 3 * (a * 8192 + b * 32) + x := fun x => by omega
  unfold rg_pk
  rw [e c, e l]
  refine b_ext fun i hi => ?_
  rw [b_or, b_and, rg_bt hi, rg_bt hi, rg_bt hi, rg_m8 i hi, Nat.testBit_two_pow_mul_add _ (by omega), Nat.testBit_two_pow_mul_add _ (by omega)]
  by_cases h : i < 3
  · rw [if_pos h, if_pos h, decide_eq_false (by omega), Bool.and_false, Bool.false_or]
  · have hz : l.testBit i = false := by
      apply Nat.testBit_lt_two_pow
      exact Nat.lt_of_lt_of_le hl (Nat.pow_le_pow_right (n := 2) (i := 3) (j := i) (by decide) (by omega))
    rw [if_neg h, if_neg h, decide_eq_true (by omega), Bool.and_true, hz, Bool.or_false]
theorem rg_ic {s o : Nat} : nI s * 256 + nI o = nI (s * 256 + o) := by
  rw [show (256 : Int32) = nI 256 from rfl, pk_mul, nI_add]
theorem rg_icD {s o : Nat} (hs : s < 256) (ho : o < 256) : nI (s * 256 + o) / 256 = nI s := by
  rw [show (256 : Int32) = nI 256 from rfl, pk_div (by omega) (by omega) (by omega)]
  exact congrArg nI (by omega)
theorem rg_icR {s o : Nat} (hs : s < 256) (ho : o < 256) : nI (s * 256 + o) - nI (s * 256 + o) / 256 * 256 = nI o := by
  rw [show (256 : Int32) = nI 256 from rfl, pk_rem (by omega) (by omega) (by omega)]
  exact congrArg nI (by omega)
theorem rg_x32 {s o : Nat} : nI s * 32 + nI o = nI (s * 32 + o) := by
  rw [show (32 : Int32) = nI 32 from rfl, pk_mul, nI_add]
theorem rg_x16 {s o : Nat} : nI s * 16 + nI o = nI (s * 16 + o) := by
  rw [show (16 : Int32) = nI 16 from rfl, pk_mul, nI_add]
theorem rg_x6 {s o : Nat} : nI s * 6 + nI o = nI (s * 6 + o) := by
  rw [show (6 : Int32) = nI 6 from rfl, pk_mul, nI_add]
theorem rg_x4 {s o : Nat} : nI s * 4 + nI o = nI (s * 4 + o) := by
  rw [show (4 : Int32) = nI 4 from rfl, pk_mul, nI_add]
theorem rg_in32 {s o : Nat} (hs : s < 8) (ho : o < 32) : vp_in (nI s * 32 + nI o) 256 := by
  rw [rg_x32]; exact vp_in_nI (by omega) (by omega)
theorem rg_in16 {s o : Nat} (hs : s < 8) (ho : o < 16) : vp_in (nI s * 16 + nI o) 128 := by
  rw [rg_x16]; exact vp_in_nI (by omega) (by omega)
theorem rg_in6 {s o : Nat} (hs : s < 16) (ho : o < 6) : vp_in (nI s * 6 + nI o) 96 := by
  rw [rg_x6]; exact vp_in_nI (by omega) (by omega)
theorem rg_in4 {s o : Nat} (hs : s < 8) (ho : o < 4) : vp_in (nI s * 4 + nI o) 32 := by
  rw [rg_x4]; exact vp_in_nI (by omega) (by omega)
theorem rg_c6 {s o : Nat} (hs : s < 16) (ho : o < 6) : (nI s * 6 + nI o).toNatClampNeg = s * 6 + o := by
  rw [rg_x6]; exact nI_clamp (by omega)
theorem rg_ucomm {f : Nat → Int32} {i j : Nat} {x y : Int32} (h : i ≠ j) : upd (upd f i x) j y = upd (upd f j y) i x := by
  funext z
  unfold upd
  by_cases h1 : z = i
  · by_cases h2 : z = j
    · exact absurd (h1.symm.trans h2) h
    · simp [h1, h]
  · by_cases h2 : z = j
    · simp [h2, Ne.symm h]
    · simp [h1, h2]
/-- the value of a branch -/
theorem rg_if {c : Prop} {A B : Prop} (h : (c ∧ A) ∨ (¬ c ∧ B)) : (c → A) ∧ (¬ c → B) :=
  h.elim (fun z => br_t z.1 z.2) (fun z => br_f z.1 z.2)
/-- x is a natural number below n -/
def rg_B (n : Nat) (x : Int32) : Prop := ∃ j : Nat, j < n ∧ x = nI j
theorem rg_B0 {n : Nat} (h : 0 < n) : rg_B n 0 := ⟨0, h, rfl⟩
theorem rg_Bm {n m : Nat} {x : Int32} (h : rg_B n x) (hm : n ≤ m) : rg_B m x := by
  obtain ⟨j, hj, e⟩ := h
  exact ⟨j, by omega, e⟩
theorem rg_Bn {n : Nat} {x : Int32} (h : rg_B n x) (hn : n < 2 ^ 30) : ¬ x < 0 := by
  obtain ⟨j, hj, rfl⟩ := h
  exact nI_pos (by omega)
theorem rg_Bin {n : Nat} {x : Int32} (h : rg_B n x) (hn : n < 2 ^ 30) : vp_in x n := by
  obtain ⟨j, hj, rfl⟩ := h
  exact vp_in_nI hj (by omega)
/-- from the tests 0 ≤ x and x < y with y bounded -/
theorem rg_Bl {n : Nat} {x y : Int32} (hy : rg_B (n + 1) y) (hn : n < 2 ^ 30) (h0 : ¬ x < 0) (h : x < y) : rg_B n x := by
  obtain ⟨j, hj, rfl⟩ := nI_of h0
  obtain ⟨l, hl, rfl⟩ := hy
  rw [nI_ltI hj (by omega)] at h
  exact ⟨j, by omega, rfl⟩
theorem rg_Ble {n : Nat} {x y : Int32} (hy : rg_B n y) (hn : n < 2 ^ 30) (h0 : ¬ x < 0) (h : x ≤ y) : rg_B n x := by
  obtain ⟨j, hj, rfl⟩ := nI_of h0
  obtain ⟨l, hl, rfl⟩ := hy
  rw [nI_leI hj (by omega)] at h
  exact ⟨j, by omega, rfl⟩
theorem rg_Bs {n : Nat} {x : Int32} (h : rg_B n x) : rg_B (n + 1) (x + 1) := by
  obtain ⟨j, hj, rfl⟩ := h
  exact ⟨j + 1, by omega, nI_1 j⟩
theorem rg_B255 (x : Int32) : rg_B 256 (x &&& 255) := pk_andE x 8 (by decide)
theorem rg_B15 (x : Int32) : rg_B 16 (x &&& 15) := pk_andE x 4 (by decide)
theorem rg_nl {x y : Int32} : ¬ x < y ↔ y ≤ x := Int32.not_lt
theorem rg_nle {x y : Int32} : ¬ x ≤ y ↔ y < x := Int32.not_le
/-- a pointer as both sides show it -/
def rg_P (a b c : Int32) : Int32 := a <<< ((16 : Int32) &&& 31) ||| b <<< ((8 : Int32) &&& 31) ||| c
theorem rg_Pk {a b c : Nat} (ha : a < 256) (hb : b < 256) (hc : c < 256) : rg_P (nI a) (nI b) (nI c) = rg_pk a b c := rg_pack ha hb hc
theorem rg_PS {a b c : Int32} (ha : rg_B 256 a) (hb : rg_B 256 b) (hc : rg_B 8 c) : rg_P a b c >>> ((16 : Int32) &&& 31) &&& 255 = a := by
  obtain ⟨a, ha, rfl⟩ := ha
  obtain ⟨b, hb, rfl⟩ := hb
  obtain ⟨c, hc, rfl⟩ := hc
  rw [rg_Pk ha hb (by omega)]
  exact rg_pSeg ha hb (by omega)
theorem rg_PO {a b c : Int32} (ha : rg_B 256 a) (hb : rg_B 256 b) (hc : rg_B 8 c) : rg_P a b c >>> ((8 : Int32) &&& 31) &&& 255 = b := by
  obtain ⟨a, ha, rfl⟩ := ha
  obtain ⟨b, hb, rfl⟩ := hb
  obtain ⟨c, hc, rfl⟩ := hc
  rw [rg_Pk ha hb (by omega)]
  exact rg_pOff ha hb (by omega)
theorem rg_PR {a b c : Int32} (ha : rg_B 256 a) (hb : rg_B 256 b) (hc : rg_B 8 c) : rg_P a b c &&& 7 = c := by
  obtain ⟨a, ha, rfl⟩ := ha
  obtain ⟨b, hb, rfl⟩ := hb
  obtain ⟨c, hc, rfl⟩ := hc
  rw [rg_Pk ha hb (by omega)]
  exact rg_pRing ha hb hc
theorem rg_US {a b c : Int32} (ha : rg_B 256 a) (hb : rg_B 256 b) (hc : rg_B 8 c) : ((rg_P a b c).toUInt32 >>> ((16 : Int32).toUInt32 &&& Int32.toUInt32 31)).toInt32 &&& 255 = a := by
  obtain ⟨a, ha, rfl⟩ := ha
  obtain ⟨b, hb, rfl⟩ := hb
  obtain ⟨c, hc, rfl⟩ := hc
  rw [rg_Pk ha hb (by omega)]
  exact rg_uSeg ha hb (by omega)
theorem rg_UO {a b c : Int32} (ha : rg_B 256 a) (hb : rg_B 256 b) (hc : rg_B 8 c) : ((rg_P a b c).toUInt32 >>> ((8 : Int32).toUInt32 &&& Int32.toUInt32 31)).toInt32 &&& 255 = b := by
  obtain ⟨a, ha, rfl⟩ := ha
  obtain ⟨b, hb, rfl⟩ := hb
  obtain ⟨c, hc, rfl⟩ := hc
  rw [rg_Pk ha hb (by omega)]
  exact rg_uOff ha hb (by omega)
theorem rg_UR {a b c : Int32} (ha : rg_B 256 a) (hb : rg_B 256 b) (hc : rg_B 8 c) : rg_P a b c &&& 255 = c := by
  obtain ⟨a, ha, rfl⟩ := ha
  obtain ⟨b, hb, rfl⟩ := hb
  obtain ⟨c, hc, rfl⟩ := hc
  rw [rg_Pk ha hb (by omega)]
  exact rg_uRing ha hb (by omega)
theorem rg_PL {a b c l : Int32} (ha : rg_B 256 a) (hb : rg_B 256 b) (hc : rg_B 8 c) (hl : rg_B 8 l) : (rg_P a b c &&& (-8)) ||| l = rg_P a b l := by
  obtain ⟨a, ha, rfl⟩ := ha
  obtain ⟨b, hb, rfl⟩ := hb
  obtain ⟨c, hc, rfl⟩ := hc
  obtain ⟨l, hl, rfl⟩ := hl
  rw [rg_Pk ha hb (by omega), rg_Pk ha hb (by omega)]
  exact rg_raise hc hl
theorem rg_i32 {s o : Int32} (hs : rg_B 8 s) (ho : rg_B 32 o) : vp_in (s * 32 + o) 256 := by
  obtain ⟨s, hs, rfl⟩ := hs
  obtain ⟨o, ho, rfl⟩ := ho
  exact rg_in32 hs ho
theorem rg_i16 {s o : Int32} (hs : rg_B 8 s) (ho : rg_B 16 o) : vp_in (s * 16 + o) 128 := by
  obtain ⟨s, hs, rfl⟩ := hs
  obtain ⟨o, ho, rfl⟩ := ho
  exact rg_in16 hs ho
theorem rg_i6 {s o : Int32} (hs : rg_B 16 s) (ho : rg_B 6 o) : vp_in (s * 6 + o) 96 := by
  obtain ⟨s, hs, rfl⟩ := hs
  obtain ⟨o, ho, rfl⟩ := ho
  exact rg_in6 hs ho
theorem rg_i4 {s o : Int32} (hs : rg_B 8 s) (ho : rg_B 4 o) : vp_in (s * 4 + o) 32 := by
  obtain ⟨s, hs, rfl⟩ := hs
  obtain ⟨o, ho, rfl⟩ := ho
  exact rg_in4 hs ho
theorem rg_rD {s o : Int32} (hs : rg_B 8 s) (ho : rg_B 256 o) : (s * 256 + o) / 256 = s := by
  obtain ⟨s, hs, rfl⟩ := hs
  obtain ⟨o, ho, rfl⟩ := ho
  rw [rg_ic]
  exact rg_icD (by omega) ho
theorem rg_rR {s o : Int32} (hs : rg_B 8 s) (ho : rg_B 256 o) : (s * 256 + o) - (s * 256 + o) / 256 * 256 = o := by
  obtain ⟨s, hs, rfl⟩ := hs
  obtain ⟨o, ho, rfl⟩ := ho
  rw [rg_ic]
  exact rg_icR (by omega) ho
/-- all cells of an array -/
theorem rg_au {p : Int32 → Prop} {f : Nat → Int32} {k : Nat} {x : Int32} (h : ∀ s, p (f s)) (hx : p x) : ∀ s, p (upd f k x s) := by
  intro s
  unfold upd
  by_cases e : s = k
  · rw [if_pos e]; exact hx
  · rw [if_neg e]; exact h s
/-- n cells from b on set to 0 -/
def rg_cl (f : Nat → Int32) (b : Int32) : Nat → Nat → Int32
  | 0 => f
  | n + 1 => upd (rg_cl f b n) (b + nI n).toNatClampNeg 0
theorem rg_cla {p : Int32 → Prop} {f : Nat → Int32} (b : Int32) (h : ∀ s, p (f s)) (h0 : p 0) : ∀ n s, p (rg_cl f b n s) := by
  intro n
  induction n with
  | zero => exact h
  | succ n ih => exact rg_au ih h0
/-- the first n cells set to 0 -/
def rg_z (f : Nat → Int32) : Nat → Nat → Int32
  | 0 => f
  | n + 1 => upd (rg_z f n) (nI n).toNatClampNeg 0
theorem rg_za {p : Int32 → Prop} {f : Nat → Int32} (h : ∀ s, p (f s)) (h0 : p 0) : ∀ n s, p (rg_z f n s) := by
  intro n
  induction n with
  | zero => exact h
  | succ n ih => exact rg_au ih h0
end
section
/-! the conditions that both sides test -/
def rg_D (sl : Int32) (L : Nat → Int32) (s : Int32) : Prop := ¬ s < 0 ∧ ¬ sl ≤ s ∧ ¬ L s.toNatClampNeg ≤ 0
def rg_W (sl : Int32) (L : Nat → Int32) (s o : Int32) : Prop := rg_D sl L s ∧ ¬ o < 0 ∧ ¬ L s.toNatClampNeg ≤ o
def rg_MR (F R2 : Nat → Int32) (s e : Int32) : Prop := ¬ F s.toNatClampNeg &&& 1 = 0 ∧ ¬ R2 s.toNatClampNeg < e
def rg_MW (F R1 : Nat → Int32) (s e : Int32) : Prop := ¬ F s.toNatClampNeg &&& 2 = 0 ∧ ¬ R1 s.toNatClampNeg < e
def rg_MX (F R1 R2 : Nat → Int32) (s e : Int32) : Prop := ¬ F s.toNatClampNeg &&& 4 = 0 ∧ ¬ e < R1 s.toNatClampNeg ∧ ¬ R2 s.toNatClampNeg < e
def rg_MC (F R3 : Nat → Int32) (s e : Int32) : Prop := ¬ F s.toNatClampNeg &&& 4 = 0 ∧ ¬ R3 s.toNatClampNeg < e
def rg_G (GC GO : Nat → Int32) (s o : Int32) : Prop := ∃ i : Nat, i < 4 ∧ ¬ GC s.toNatClampNeg ≤ nI i ∧ GO (s * 4 + nI i).toNatClampNeg = o
/-! what holds of the states -/
def rg_Seg (L R1 R2 GC : Nat → Int32) : Prop := ∀ s, rg_B 33 (L s) ∧ rg_B 8 (R1 s) ∧ rg_B 8 (R2 s) ∧ R1 s ≤ R2 s ∧ rg_B 5 (GC s)
def rg_Dd (D L : Nat → Int32) : Prop := ∀ s, D s = 0 ↔ L s ≤ 0
def rg_Hs (H : Nat → Int32) : Prop := ∀ r, rg_B 17 (H r)
def rg_Pt (x : Int32) : Prop := ∃ a b c, rg_B 256 a ∧ rg_B 256 b ∧ rg_B 8 c ∧ x = rg_P a b c
def rg_F6 (FR : Nat → Int32) (b : Nat) : Prop := (∃ s o, rg_B 8 s ∧ rg_B 256 o ∧ FR b = s * 256 + o) ∧ rg_B 8 (FR (b + 1)) ∧ rg_B 17 (FR (b + 2)) ∧ rg_Pt (FR (b + 3)) ∧ rg_Pt (FR (b + 4))
def rg_Fs (fc : Int32) (FR : Nat → Int32) : Prop := ∃ n : Nat, n < 17 ∧ fc = nI n ∧ ∀ f, f < n → rg_F6 FR (f * 6)
theorem rg_D8 {sl s : Int32} (c1 : rg_B 9 sl) (h0 : ¬ s < 0) (h1 : ¬ sl ≤ s) : rg_B 8 s := rg_Bl (n := 8) c1 (by decide) h0 (rg_nle.mp h1)
theorem rg_Dv {sl s : Int32} (c1 : rg_B 9 sl) (h0 : ¬ s < 0) (h1 : ¬ sl ≤ s) : vp_in s 8 := rg_Bin (rg_D8 c1 h0 h1) (by decide)
theorem rg_D8' {sl s : Int32} {L : Nat → Int32} (c1 : rg_B 9 sl) (h : rg_D sl L s) : rg_B 8 s := rg_D8 c1 h.1 h.2.1
theorem rg_DI {sl s : Int32} {L : Nat → Int32} (c1 : rg_B 9 sl) (h : rg_D sl L s) : vp_in s 8 := rg_Dv c1 h.1 h.2.1
theorem rg_O32 {L R1 R2 GC : Nat → Int32} {o : Int32} (hS : rg_Seg L R1 R2 GC) (k : Nat) (h0 : ¬ o < 0) (h : ¬ L k ≤ o) : rg_B 32 o := rg_Bl (n := 32) (hS k).1 (by decide) h0 (rg_nle.mp h)
theorem rg_WI {sl s o : Int32} {L R1 R2 GC : Nat → Int32} (c1 : rg_B 9 sl) (hS : rg_Seg L R1 R2 GC) (h : rg_W sl L s o) : vp_in (s * 32 + o) 256 := rg_i32 (rg_D8' c1 h.1) (rg_O32 hS _ h.2.1 h.2.2)
/-- the greater of two, as the reference writes it -/
noncomputable def rg_mx (a b : Int32) : Int32 := if a ≤ b then b else a
theorem rg_1 : ¬ (1 : Int32) = 0 := by decide
theorem rg_2 : ¬ (2 : Int32) = 0 := by decide
theorem rg_3 : ¬ (3 : Int32) = 0 := by decide
section
variable {sl wl dl st fa ri si so ac P Q fc cx : Int32} {L F R1 R2 R3 GC GO W H SC FR : Nat → Int32}
variable {p : Int32 → Prop} {ps : SX → Prop} {pq : Int32 → SX → Prop} {s o e k : Int32}
theorem xl_isDefined (c1 : rg_B 9 sl) (ht : rg_D sl L s → p 1) (hf : ¬ rg_D sl L s → p 0) : wpX_isDefined p (sl, wl, dl, st, fa, ri, si, so, ac, P, Q, fc, cx, L, F, R1, R2, R3, GC, GO, W, H, SC, FR) s :=
  br_c (fun h => hf fun z => z.1 h) (fun h0 => br_c (fun h => hf fun z => z.2.1 h) (fun h1 => ⟨rg_Dv c1 h0 h1, br_c (fun h => hf fun z => z.2.2 h) (fun h2 => ht ⟨h0, h1, h2⟩)⟩))
theorem xl_isWord (c1 : rg_B 9 sl) (ht : rg_W sl L s o → p 1) (hf : ¬ rg_W sl L s o → p 0) : wpX_isWord p (sl, wl, dl, st, fa, ri, si, so, ac, P, Q, fc, cx, L, F, R1, R2, R3, GC, GO, W, H, SC, FR) s o := by
  unfold wpX_isWord
  exact xl_isDefined c1 (fun hd => br_f rg_1 (br_c (fun h => hf fun z => z.2.1 h) (fun h0 => ⟨rg_DI c1 hd, br_c (fun h => hf fun z => z.2.2 h) (fun h2 => ht ⟨hd, h0, h2⟩)⟩))) (fun hd => br_t rfl (hf fun z => hd z.1))
theorem xl_hasFlag (hv : vp_in s 8) (ht : ¬ F s.toNatClampNeg &&& k = 0 → p 1) (hf : F s.toNatClampNeg &&& k = 0 → p 0) : wpX_hasFlag p (sl, wl, dl, st, fa, ri, si, so, ac, P, Q, fc, cx, L, F, R1, R2, R3, GC, GO, W, H, SC, FR) s k :=
  And.intro hv (br_c hf ht)
theorem xl_mayRead (hv : vp_in s 8) (ht : rg_MR F R2 s e → p 1) (hf : ¬ rg_MR F R2 s e → p 0) : wpX_mayRead p (sl, wl, dl, st, fa, ri, si, so, ac, P, Q, fc, cx, L, F, R1, R2, R3, GC, GO, W, H, SC, FR) s e := by
  unfold wpX_mayRead
  exact xl_hasFlag hv (fun h => br_f rg_1 ⟨hv, br_c (fun h1 => hf fun z => z.2 h1) (fun h1 => ht ⟨h, h1⟩)⟩) (fun h => br_t rfl (hf fun z => z.1 h))
theorem xl_mayWrite (hv : vp_in s 8) (ht : rg_MW F R1 s e → p 1) (hf : ¬ rg_MW F R1 s e → p 0) : wpX_mayWrite p (sl, wl, dl, st, fa, ri, si, so, ac, P, Q, fc, cx, L, F, R1, R2, R3, GC, GO, W, H, SC, FR) s e := by
  unfold wpX_mayWrite
  exact xl_hasFlag hv (fun h => br_f rg_1 ⟨hv, br_c (fun h1 => hf fun z => z.2 h1) (fun h1 => ht ⟨h, h1⟩)⟩) (fun h => br_t rfl (hf fun z => z.1 h))
theorem xl_isCallable (hv : vp_in s 8) (ht : rg_MC F R3 s e → p 1) (hf : ¬ rg_MC F R3 s e → p 0) : wpX_isCallable p (sl, wl, dl, st, fa, ri, si, so, ac, P, Q, fc, cx, L, F, R1, R2, R3, GC, GO, W, H, SC, FR) s e := by
  unfold wpX_isCallable
  exact xl_hasFlag hv (fun h => br_f rg_1 ⟨hv, br_c (fun h1 => hf fun z => z.2 h1) (fun h1 => ht ⟨h, h1⟩)⟩) (fun h => br_t rfl (hf fun z => z.1 h))
theorem xl_mayExecute (hv : vp_in s 8) (ht : rg_MX F R1 R2 s e → p 1) (hf : ¬ rg_MX F R1 R2 s e → p 0) : wpX_mayExecute p (sl, wl, dl, st, fa, ri, si, so, ac, P, Q, fc, cx, L, F, R1, R2, R3, GC, GO, W, H, SC, FR) s e := by
  unfold wpX_mayExecute
  exact xl_hasFlag hv (fun h => br_f rg_1 ⟨hv, br_c (fun h1 => hf fun z => z.2.1 h1) (fun h1 => ⟨hv, br_c (fun h2 => hf fun z => z.2.2 h2) (fun h2 => ht ⟨h, h1, h2⟩)⟩)⟩) (fun h => br_t rfl (hf fun z => z.1 h))
theorem xl_gateLoop {c : Nat} (hs : rg_B 8 s) (hc : c < 5) (hC : GC s.toNatClampNeg = nI c) (ht : rg_G GC GO s o → p 1) (hf : ¬ rg_G GC GO s o → p 0) : ∀ d i : Nat, i + d = c → (∀ j, j < i → ¬ GO (s * 4 + nI j).toNatClampNeg = o) → wX_isGate_15 p o (s * 4) (nI c) sl wl dl st fa ri si so ac P Q fc cx L F R1 R2 R3 GC GO W H SC FR (d + 1) (nI i) := by
  intro d
  induction d with
  | zero =>
    intro i hi hn
    refine br_t (nI_le (by omega) (by omega)) (hf ?_)
    rintro ⟨j, hj, h1, h2⟩
    rw [hC, nI_leI (by omega) (by omega)] at h1
    exact hn j (by omega) h2
  | succ d ih =>
    intro i hi hn
    refine br_f (nI_ge (by omega) (by omega)) ⟨rg_i4 hs ⟨i, by omega, rfl⟩, br_c (fun h => ht ⟨i, by omega, ?_, h⟩) (fun h => nm_r (nI_1 i) (ih (i + 1) (by omega) ?_))⟩
    · rw [hC]
      exact nI_ge (by omega) (by omega)
    · intro j hj
      by_cases e : j = i
      · rw [e]; exact h
      · exact hn j (by omega)
theorem xl_isGate (hs : rg_B 8 s) (hc : rg_B 5 (GC s.toNatClampNeg)) (ht : rg_G GC GO s o → p 1) (hf : ¬ rg_G GC GO s o → p 0) : wpX_isGate p (sl, wl, dl, st, fa, ri, si, so, ac, P, Q, fc, cx, L, F, R1, R2, R3, GC, GO, W, H, SC, FR) s o := by
  obtain ⟨c, hc, hC⟩ := hc
  exact nm_e ⟨rg_Bin hs (by decide), nm_r hC ⟨c + 1, xl_gateLoop hs hc hC ht hf c 0 (by omega) (fun j hj => absurd hj (Nat.not_lt_zero j))⟩⟩
theorem xl_placeFault (c1 : rg_B 9 sl) (h1 : ¬ rg_D sl L s → p 1) (h2 : rg_D sl L s → L s.toNatClampNeg ≤ o → p 2) (h3 : rg_D sl L s → ¬ L s.toNatClampNeg ≤ o → p 0) : wpX_placeFault p (sl, wl, dl, st, fa, ri, si, so, ac, P, Q, fc, cx, L, F, R1, R2, R3, GC, GO, W, H, SC, FR) s o := by
  unfold wpX_placeFault
  exact xl_isDefined c1 (fun hd => br_f rg_1 ⟨rg_DI c1 hd, br_c (h2 hd) (h3 hd)⟩) (fun hd => br_t rfl (h1 hd))
theorem xl_fetchFault (c1 : rg_B 9 sl) (h1 : ¬ rg_D sl L si → p 1) (h2 : rg_D sl L si → L si.toNatClampNeg ≤ so → p 2) (h3 : rg_D sl L si → ¬ L si.toNatClampNeg ≤ so → ¬ rg_MX F R1 R2 si ri → p 3) (h4 : rg_D sl L si → ¬ L si.toNatClampNeg ≤ so → rg_MX F R1 R2 si ri → p 0) : wpX_fetchFault p (sl, wl, dl, st, fa, ri, si, so, ac, P, Q, fc, cx, L, F, R1, R2, R3, GC, GO, W, H, SC, FR) := by
  unfold wpX_fetchFault
  exact xl_placeFault c1 (fun hd => br_f rg_1 (h1 hd)) (fun hd h => br_f rg_2 (h2 hd h)) (fun hd h => br_t rfl (xl_mayExecute (rg_DI c1 hd) (fun hx => br_f rg_1 (h4 hd h hx)) (fun hx => br_t rfl (h3 hd h hx))))
theorem xl_clamp {a b c : Int32} (h : p (if b ≤ a then (if a ≤ c then a else c) else b)) : wpX_clamp p a b c := by
  by_cases h1 : b ≤ a
  · by_cases h2 : a ≤ c
    · rw [if_pos h1, if_pos h2] at h; exact br_t h1 (br_t h2 h)
    · rw [if_pos h1, if_neg h2] at h; exact br_t h1 (br_f h2 h)
  · rw [if_neg h1] at h; exact br_f h1 h
theorem xl_clearLoop {W0 : Nat → Int32} (hs : rg_B 8 s) (hp : ps (sl, wl, dl, st, fa, ri, si, so, ac, P, Q, fc, cx, L, F, R1, R2, R3, GC, GO, rg_cl W0 (s * 32) 32, H, SC, FR)) : ∀ d i : Nat, i + d = 32 → wX_clearWords_7 ps (s * 32) sl wl dl st fa ri si so ac P Q fc cx (d + 1) (nI i) L F R1 R2 R3 GC GO (rg_cl W0 (s * 32) i) H SC FR := by
  intro d
  induction d with
  | zero =>
    intro i hi
    have e : i = 32 := by omega
    subst e
    exact br_t (by decide) hp
  | succ d ih =>
    intro i hi
    exact br_f (nI_ge (b := 32) (by omega) (by decide)) ⟨rg_i32 hs ⟨i, by omega, rfl⟩, nm_e (nm_r (nI_1 i) (ih (i + 1) (by omega)))⟩
theorem xl_clearWords (hs : rg_B 8 s) (hp : ps (sl, wl, dl, st, fa, ri, si, so, ac, P, Q, fc, cx, L, F, R1, R2, R3, GC, GO, rg_cl W (s * 32) 32, H, SC, FR)) : wpX_clearWords ps (sl, wl, dl, st, fa, ri, si, so, ac, P, Q, fc, cx, L, F, R1, R2, R3, GC, GO, W, H, SC, FR) s :=
  nm_e ⟨33, xl_clearLoop (W0 := W) hs hp 32 0 rfl⟩
theorem xl_emptyLoop {H0 : Nat → Int32} (hp : ps (sl, wl, dl, st, fa, ri, si, so, ac, P, Q, fc, cx, L, F, R1, R2, R3, GC, GO, W, rg_z H0 8, SC, FR)) : ∀ d i : Nat, i + d = 8 → wX_emptyStacks_2 ps sl wl dl st fa ri si so ac P Q fc cx (d + 1) (nI i) L F R1 R2 R3 GC GO W (rg_z H0 i) SC FR := by
  intro d
  induction d with
  | zero =>
    intro i hi
    have e : i = 8 := by omega
    subst e
    exact br_t (by decide) hp
  | succ d ih =>
    intro i hi
    exact br_f (nI_ge (b := 8) (by omega) (by decide)) ⟨vp_in_nI (by omega) (by decide), nm_e (nm_r (nI_1 i) (ih (i + 1) (by omega)))⟩
theorem xl_emptyStacks (hp : ps (sl, wl, dl, st, fa, ri, si, so, ac, P, Q, fc, cx, L, F, R1, R2, R3, GC, GO, W, rg_z H 8, SC, FR)) : wpX_emptyStacks ps (sl, wl, dl, st, fa, ri, si, so, ac, P, Q, fc, cx, L, F, R1, R2, R3, GC, GO, W, H, SC, FR) :=
  ⟨9, xl_emptyLoop (H0 := H) hp 8 0 rfl⟩
theorem xl_isRing (ht : ¬ s < 0 → ¬ 7 < s → p 1) (hf : ¬ (¬ s < 0 ∧ ¬ 7 < s) → p 0) : wpX_isRing p s :=
  br_c (fun h => hf fun z => z.1 h) (fun h0 => br_c (fun h => hf fun z => z.2 h) (fun h1 => ht h0 h1))
end
end
section
noncomputable def rg_fl (fc : Int32) (FR : Nat → Int32) : Int32 := if fc = 0 then 0 else FR ((fc - 1) * 6 + 2).toNatClampNeg
noncomputable def rg_en (R1 R2 : Nat → Int32) (ri s : Int32) : Int32 := if R1 s.toNatClampNeg ≤ ri then (if ri ≤ R2 s.toNatClampNeg then ri else R2 s.toNatClampNeg) else R1 s.toNatClampNeg
theorem rg_en8 {L R1 R2 GC : Nat → Int32} {ri s : Int32} (hS : rg_Seg L R1 R2 GC) (b1 : rg_B 8 ri) : rg_B 8 (rg_en R1 R2 ri s) := by
  unfold rg_en
  have h := hS s.toNatClampNeg
  by_cases h1 : R1 s.toNatClampNeg ≤ ri
  · rw [if_pos h1]
    by_cases h2 : ri ≤ R2 s.toNatClampNeg
    · rw [if_pos h2]; exact b1
    · rw [if_neg h2]; exact h.2.2.1
  · rw [if_neg h1]; exact h.2.1
theorem rg_mx8 {a b : Int32} (ha : rg_B 8 a) (hb : rg_B 8 b) : rg_B 8 (rg_mx a b) := by
  unfold rg_mx
  by_cases h : a ≤ b
  · rw [if_pos h]; exact hb
  · rw [if_neg h]; exact ha
theorem rg_assoc (a b : Int32) : a + b - 1 = a + (b - 1) := by grind
/-- the frame that a call pushes, in the class's order of stores -/
def rg_fr (FR : Nat → Int32) (b ret ri fl P Q n : Int32) : Nat → Int32 := upd (upd (upd (upd (upd (upd FR (b + 0).toNatClampNeg ret) (b + 1).toNatClampNeg ri) (b + 2).toNatClampNeg fl) (b + 3).toNatClampNeg P) (b + 4).toNatClampNeg Q) (b + 5).toNatClampNeg n
theorem rg_fI {fc : Int32} {FR : Nat → Int32} (hF : rg_Fs fc FR) (h : ¬ fc = 0) (j : Nat) (hj : j < 6) : vp_in ((fc - 1) * 6 + nI j) 96 := by
  obtain ⟨n, hn, rfl, _⟩ := hF
  have h0 : n ≠ 0 := fun z => h (by rw [z]; rfl)
  obtain ⟨m, rfl⟩ := Nat.exists_eq_succ_of_ne_zero h0
  rw [Nat.succ_eq_add_one, nI_pred]
  exact rg_in6 (by omega) hj
theorem rg_fB {fc : Int32} {FR : Nat → Int32} (hF : rg_Fs fc FR) (h : ¬ fc = 0) : ∃ f : Nat, f < 16 ∧ fc = nI (f + 1) ∧ fc - 1 = nI f ∧ rg_F6 FR (f * 6) ∧ (∀ j : Nat, j < 6 → ((fc - 1) * 6 + nI j).toNatClampNeg = f * 6 + j) ∧ (∀ g, g < f → rg_F6 FR (g * 6)) := by
  obtain ⟨n, hn, rfl, hf⟩ := hF
  have h0 : n ≠ 0 := fun z => h (by rw [z]; rfl)
  obtain ⟨m, rfl⟩ := Nat.exists_eq_succ_of_ne_zero h0
  rw [Nat.succ_eq_add_one, nI_pred]
  exact ⟨m, by omega, rfl, rfl, hf m (by omega), fun j hj => rg_c6 (by omega) hj, fun g hg => hf g (by omega)⟩
theorem rg_flB {fc : Int32} {FR : Nat → Int32} (hF : rg_Fs fc FR) : rg_B 17 (rg_fl fc FR) := by
  unfold rg_fl
  by_cases h : fc = 0
  · rw [if_pos h]; exact rg_B0 (by decide)
  · rw [if_neg h]
    obtain ⟨f, hf, e1, e2, h6, hc, _⟩ := rg_fB hF h
    have e := hc 2 (by decide)
    rw [show (nI 2) = 2 from rfl] at e
    rw [e]
    exact h6.2.2.1
section
variable {sl wl dl st fa ri si so ac pa pb pc qa qb qc P Q fc cx : Int32} {L F R1 R2 R3 GC GO W H SC FR : Nat → Int32}
variable {p : Int32 → Prop} {ps : SX → Prop} {pq : Int32 → SX → Prop} {s o e k w : Int32}
theorem xl_pSeg (p1 : rg_B 256 pa) (p2 : rg_B 256 pb) (p3 : rg_B 8 pc) (h : p pa) : wpX_pointerSeg p (rg_P pa pb pc) := by
  unfold wpX_pointerSeg
  rw [rg_PS p1 p2 p3]
  exact h
theorem xl_pOff (p1 : rg_B 256 pa) (p2 : rg_B 256 pb) (p3 : rg_B 8 pc) (h : p pb) : wpX_pointerOff p (rg_P pa pb pc) := by
  unfold wpX_pointerOff
  rw [rg_PO p1 p2 p3]
  exact h
theorem xl_pRing (p1 : rg_B 256 pa) (p2 : rg_B 256 pb) (p3 : rg_B 8 pc) (h : p pc) : wpX_pointerRing p (rg_P pa pb pc) := by
  unfold wpX_pointerRing
  rw [rg_PR p1 p2 p3]
  exact h
theorem xl_eff (p1 : rg_B 256 pa) (p2 : rg_B 256 pb) (p3 : rg_B 8 pc) (h : p (rg_mx ri pc)) : wpX_effectiveRing p (sl, wl, dl, st, fa, ri, si, so, ac, rg_P pa pb pc, Q, fc, cx, L, F, R1, R2, R3, GC, GO, W, H, SC, FR) := by
  unfold wpX_effectiveRing
  refine xl_pRing p1 p2 p3 ?_
  unfold rg_mx at h
  by_cases h1 : ri ≤ pc
  · rw [if_pos h1] at h
    by_cases h2 : pc ≤ ri
    · rw [Int32.le_antisymm h2 h1] at h
      exact br_t h2 h
    · exact br_f h2 h
  · rw [if_neg h1] at h
    exact br_t (Int32.le_of_lt (rg_nle.mp h1)) h
theorem xl_raised (p1 : rg_B 256 pa) (p2 : rg_B 256 pb) (p3 : rg_B 8 pc) (b1 : rg_B 8 ri) (h : p (rg_P pa pb (rg_mx ri pc))) : wpX_raisedTo p (rg_P pa pb pc) ri := by
  unfold wpX_raisedTo
  refine xl_pRing p1 p2 p3 ?_
  unfold rg_mx at h
  by_cases h1 : ri ≤ pc
  · rw [if_pos h1] at h
    exact br_t h1 h
  · rw [if_neg h1] at h
    refine br_f h1 ?_
    rw [rg_PL p1 p2 p3 b1]
    exact h
theorem xl_advance (p1 : rg_B 256 pa) (p2 : rg_B 256 pb) (p3 : rg_B 8 pc) (h : ps (sl, wl, dl, st, fa, ri, si, so, ac, rg_P pa ((pb + k) &&& 255) pc, Q, fc, cx, L, F, R1, R2, R3, GC, GO, W, H, SC, FR)) : wpX_advancePointer ps (sl, wl, dl, st, fa, ri, si, so, ac, rg_P pa pb pc, Q, fc, cx, L, F, R1, R2, R3, GC, GO, W, H, SC, FR) k := by
  unfold wpX_advancePointer
  exact xl_pSeg p1 p2 p3 (xl_pOff p1 p2 p3 (nm_e (xl_pRing p1 p2 p3 h)))
theorem xl_load (c1 : rg_B 9 sl) (hS : rg_Seg L R1 R2 GC) (p1 : rg_B 256 pa) (p2 : rg_B 256 pb) (p3 : rg_B 8 pc) (h1 : ¬ rg_D sl L pa → pq 1 (sl, wl, dl, st, fa, ri, si, so, ac, rg_P pa pb pc, Q, fc, cx, L, F, R1, R2, R3, GC, GO, W, H, SC, FR)) (h2 : rg_D sl L pa → L pa.toNatClampNeg ≤ pb → pq 2 (sl, wl, dl, st, fa, ri, si, so, ac, rg_P pa pb pc, Q, fc, cx, L, F, R1, R2, R3, GC, GO, W, H, SC, FR)) (h3 : rg_D sl L pa → ¬ L pa.toNatClampNeg ≤ pb → ¬ rg_MR F R2 pa (rg_mx ri pc) → pq 4 (sl, wl, dl, st, fa, ri, si, so, ac, rg_P pa pb pc, Q, fc, cx, L, F, R1, R2, R3, GC, GO, W, H, SC, FR)) (h4 : rg_D sl L pa → ¬ L pa.toNatClampNeg ≤ pb → rg_MR F R2 pa (rg_mx ri pc) → pq 0 (sl, wl, dl, st, fa, ri, si, so + 1, W (pa * 32 + pb).toNatClampNeg, rg_P pa pb pc, Q, fc, cx, L, F, R1, R2, R3, GC, GO, W, H, SC, FR)) : wpX_load pq (sl, wl, dl, st, fa, ri, si, so, ac, rg_P pa pb pc, Q, fc, cx, L, F, R1, R2, R3, GC, GO, W, H, SC, FR) := by
  unfold wpX_load
  exact xl_pSeg p1 p2 p3 (xl_pOff p1 p2 p3 (xl_placeFault c1 (fun hd => br_f rg_1 (h1 hd)) (fun hd h => br_f rg_2 (h2 hd h)) (fun hd h => br_t rfl (xl_eff p1 p2 p3 (xl_mayRead (rg_DI c1 hd) (fun hm => br_f rg_1 ⟨rg_i32 (rg_D8' c1 hd) (rg_O32 hS _ (rg_Bn p2 (by decide)) h), nm_e (nm_e (h4 hd h hm))⟩) (fun hm => br_t rfl (h3 hd h hm)))))))
theorem xl_store (c1 : rg_B 9 sl) (hS : rg_Seg L R1 R2 GC) (p1 : rg_B 256 pa) (p2 : rg_B 256 pb) (p3 : rg_B 8 pc) (h1 : ¬ rg_D sl L pa → pq 1 (sl, wl, dl, st, fa, ri, si, so, ac, rg_P pa pb pc, Q, fc, cx, L, F, R1, R2, R3, GC, GO, W, H, SC, FR)) (h2 : rg_D sl L pa → L pa.toNatClampNeg ≤ pb → pq 2 (sl, wl, dl, st, fa, ri, si, so, ac, rg_P pa pb pc, Q, fc, cx, L, F, R1, R2, R3, GC, GO, W, H, SC, FR)) (h3 : rg_D sl L pa → ¬ L pa.toNatClampNeg ≤ pb → ¬ rg_MW F R1 pa (rg_mx ri pc) → pq 5 (sl, wl, dl, st, fa, ri, si, so, ac, rg_P pa pb pc, Q, fc, cx, L, F, R1, R2, R3, GC, GO, W, H, SC, FR)) (h4 : rg_D sl L pa → ¬ L pa.toNatClampNeg ≤ pb → rg_MW F R1 pa (rg_mx ri pc) → pq 0 (sl, wl, dl, st, fa, ri, si, so + 1, ac, rg_P pa pb pc, Q, fc, cx, L, F, R1, R2, R3, GC, GO, upd W (pa * 32 + pb).toNatClampNeg ac, H, SC, FR)) : wpX_store pq (sl, wl, dl, st, fa, ri, si, so, ac, rg_P pa pb pc, Q, fc, cx, L, F, R1, R2, R3, GC, GO, W, H, SC, FR) := by
  unfold wpX_store
  exact xl_pSeg p1 p2 p3 (xl_pOff p1 p2 p3 (xl_placeFault c1 (fun hd => br_f rg_1 (h1 hd)) (fun hd h => br_f rg_2 (h2 hd h)) (fun hd h => br_t rfl (xl_eff p1 p2 p3 (xl_mayWrite (rg_DI c1 hd) (fun hm => br_f rg_1 ⟨rg_i32 (rg_D8' c1 hd) (rg_O32 hS _ (rg_Bn p2 (by decide)) h), nm_e (nm_e (h4 hd h hm))⟩) (fun hm => br_t rfl (h3 hd h hm)))))))
theorem xl_push (b1 : rg_B 8 ri) (c3 : rg_B 17 dl) (hH : rg_Hs H) (h1 : ¬ H ri.toNatClampNeg < dl → pq 8 (sl, wl, dl, st, fa, ri, si, so, ac, P, Q, fc, cx, L, F, R1, R2, R3, GC, GO, W, H, SC, FR)) (h2 : H ri.toNatClampNeg < dl → pq 0 (sl, wl, dl, st, fa, ri, si, so + 1, ac, P, Q, fc, cx, L, F, R1, R2, R3, GC, GO, W, upd H ri.toNatClampNeg (H ri.toNatClampNeg + 1), upd SC (ri * 16 + H ri.toNatClampNeg).toNatClampNeg ac, FR)) : wpX_push pq (sl, wl, dl, st, fa, ri, si, so, ac, P, Q, fc, cx, L, F, R1, R2, R3, GC, GO, W, H, SC, FR) :=
  And.intro (rg_Bin b1 (by decide)) (nm_e (br_c (fun h => ⟨rg_i16 b1 (rg_Bl (n := 16) c3 (by decide) (rg_Bn (hH _) (by decide)) h), nm_e ⟨rg_Bin b1 (by decide), nm_e (nm_e (h2 h))⟩⟩) h1))
theorem xl_floor (hF : rg_Fs fc FR) (h : p (rg_fl fc FR)) : wpX_innermostFloor p (sl, wl, dl, st, fa, ri, si, so, ac, P, Q, fc, cx, L, F, R1, R2, R3, GC, GO, W, H, SC, FR) := by
  unfold rg_fl at h
  by_cases h1 : fc = 0
  · rw [if_pos h1] at h
    exact br_t h1 h
  · rw [if_neg h1] at h
    exact br_f h1 ⟨rg_fI hF h1 2 (by decide), h⟩
theorem xl_pop (b1 : rg_B 8 ri) (hH : rg_Hs H) (hF : rg_Fs fc FR) (h1 : ¬ rg_fl fc FR < H ri.toNatClampNeg → pq 8 (sl, wl, dl, st, fa, ri, si, so, ac, P, Q, fc, cx, L, F, R1, R2, R3, GC, GO, W, H, SC, FR)) (h2 : rg_fl fc FR < H ri.toNatClampNeg → vp_in (ri * 16 + (H ri.toNatClampNeg - 1)) 128 → pq 0 (sl, wl, dl, st, fa, ri, si, so + 1, SC (ri * 16 + (H ri.toNatClampNeg - 1)).toNatClampNeg, P, Q, fc, cx, L, F, R1, R2, R3, GC, GO, W, upd H ri.toNatClampNeg (H ri.toNatClampNeg - 1), SC, FR)) : wpX_pop pq (sl, wl, dl, st, fa, ri, si, so, ac, P, Q, fc, cx, L, F, R1, R2, R3, GC, GO, W, H, SC, FR) := by
  have hv : rg_fl fc FR < H ri.toNatClampNeg → vp_in (ri * 16 + (H ri.toNatClampNeg - 1)) 128 := by
    intro h
    obtain ⟨f, hf, ef⟩ := rg_flB hF
    obtain ⟨t, ht, et⟩ := hH ri.toNatClampNeg
    rw [ef, et, nI_ltI (by omega) (by omega)] at h
    obtain ⟨m, rfl⟩ : ∃ m, t = m + 1 := ⟨t - 1, by omega⟩
    rw [et, nI_pred]
    exact rg_i16 b1 ⟨m, by omega, rfl⟩
  refine And.intro (rg_Bin b1 (by decide)) (nm_e (xl_floor hF (br_c (fun h => ?_) h1)))
  have h3 := h2 h (hv h)
  have h4 := hv h
  rw [← rg_assoc] at h3 h4
  exact ⟨h4, nm_e ⟨rg_Bin b1 (by decide), nm_e (nm_e h3)⟩⟩
theorem xl_pushFrame (b1 : rg_B 8 k) (hF : rg_B 16 fc) (h : ps (sl, wl, dl, st, fa, ri, si, so, ac, P, Q, fc + 1, cx, L, F, R1, R2, R3, GC, GO, W, H, SC, rg_fr FR (fc * 6) (si * 256 + so + 1) ri (H k.toNatClampNeg) P Q k)) : wpX_pushFrame ps (sl, wl, dl, st, fa, ri, si, so, ac, P, Q, fc, cx, L, F, R1, R2, R3, GC, GO, W, H, SC, FR) k :=
  nm_e ⟨rg_i6 (o := nI 0) hF ⟨0, by decide, rfl⟩, nm_e ⟨rg_i6 (o := nI 1) hF ⟨1, by decide, rfl⟩, nm_e ⟨rg_Bin b1 (by decide), rg_i6 (o := nI 2) hF ⟨2, by decide, rfl⟩, nm_e ⟨rg_i6 (o := nI 3) hF ⟨3, by decide, rfl⟩, nm_e ⟨rg_i6 (o := nI 4) hF ⟨4, by decide, rfl⟩, nm_e ⟨rg_i6 (o := nI 5) hF ⟨5, by decide, rfl⟩, nm_e (nm_e h)⟩⟩⟩⟩⟩⟩
theorem xl_call53 (hv : vp_in s 8) (hS : rg_Seg L R1 R2 GC) (b1 : rg_B 8 ri) (hF : rg_Fs fc FR) (c3 : rg_B 17 dl) (p1 : rg_B 256 pa) (p2 : rg_B 256 pb) (p3 : rg_B 8 pc) (q1 : rg_B 256 qa) (q2 : rg_B 256 qb) (q3 : rg_B 8 qc) (h1 : ¬ fc < dl → pq 9 (sl, wl, dl, st, fa, ri, si, so, ac, rg_P pa pb pc, rg_P qa qb qc, fc, cx, L, F, R1, R2, R3, GC, GO, W, H, SC, FR)) (h2 : fc < dl → pq 0 (sl, wl, dl, st, fa, rg_en R1 R2 ri s, s, o, ac, rg_P pa pb (rg_mx ri pc), rg_P qa qb (rg_mx ri qc), fc + 1, cx, L, F, R1, R2, R3, GC, GO, W, H, SC, rg_fr FR (fc * 6) (si * 256 + so + 1) ri (H (rg_en R1 R2 ri s).toNatClampNeg) (rg_P pa pb pc) (rg_P qa qb qc) (rg_en R1 R2 ri s))) : wX_callSegment_53 pq s o sl wl dl st fa ri si so ac (rg_P pa pb pc) (rg_P qa qb qc) fc cx L F R1 R2 R3 GC GO W H SC FR := by
  refine br_c (fun h => ⟨hv, hv, xl_clamp ?_⟩) h1
  have hf : rg_B 16 fc := by
    obtain ⟨n, hn, e, _⟩ := hF
    exact rg_Bl (n := 16) c3 (by decide) (rg_Bn ⟨n, hn, e⟩ (by decide)) h
  exact xl_pushFrame (rg_en8 hS b1) hf (xl_raised p1 p2 p3 b1 (xl_raised q1 q2 q3 b1 (h2 h)))
theorem xl_call (c1 : rg_B 9 sl) (hS : rg_Seg L R1 R2 GC) (b1 : rg_B 8 ri) (hF : rg_Fs fc FR) (c3 : rg_B 17 dl) (p1 : rg_B 256 pa) (p2 : rg_B 256 pb) (p3 : rg_B 8 pc) (q1 : rg_B 256 qa) (q2 : rg_B 256 qb) (q3 : rg_B 8 qc) (h1 : ¬ rg_D sl L s → pq 1 (sl, wl, dl, st, fa, ri, si, so, ac, rg_P pa pb pc, rg_P qa qb qc, fc, cx, L, F, R1, R2, R3, GC, GO, W, H, SC, FR)) (h2 : rg_D sl L s → L s.toNatClampNeg ≤ o → pq 2 (sl, wl, dl, st, fa, ri, si, so, ac, rg_P pa pb pc, rg_P qa qb qc, fc, cx, L, F, R1, R2, R3, GC, GO, W, H, SC, FR)) (h3 : rg_D sl L s → ¬ L s.toNatClampNeg ≤ o → ¬ rg_MC F R3 s ri → pq 6 (sl, wl, dl, st, fa, ri, si, so, ac, rg_P pa pb pc, rg_P qa qb qc, fc, cx, L, F, R1, R2, R3, GC, GO, W, H, SC, FR)) (h4 : rg_D sl L s → ¬ L s.toNatClampNeg ≤ o → rg_MC F R3 s ri → ¬ ri ≤ R2 s.toNatClampNeg → ¬ rg_G GC GO s o → pq 7 (sl, wl, dl, st, fa, ri, si, so, ac, rg_P pa pb pc, rg_P qa qb qc, fc, cx, L, F, R1, R2, R3, GC, GO, W, H, SC, FR)) (h5 : rg_D sl L s → ¬ L s.toNatClampNeg ≤ o → rg_MC F R3 s ri → (ri ≤ R2 s.toNatClampNeg ∨ rg_G GC GO s o) → ¬ fc < dl → pq 9 (sl, wl, dl, st, fa, ri, si, so, ac, rg_P pa pb pc, rg_P qa qb qc, fc, cx, L, F, R1, R2, R3, GC, GO, W, H, SC, FR)) (h6 : rg_D sl L s → ¬ L s.toNatClampNeg ≤ o → rg_MC F R3 s ri → (ri ≤ R2 s.toNatClampNeg ∨ rg_G GC GO s o) → fc < dl → pq 0 (sl, wl, dl, st, fa, rg_en R1 R2 ri s, s, o, ac, rg_P pa pb (rg_mx ri pc), rg_P qa qb (rg_mx ri qc), fc + 1, cx, L, F, R1, R2, R3, GC, GO, W, H, SC, rg_fr FR (fc * 6) (si * 256 + so + 1) ri (H (rg_en R1 R2 ri s).toNatClampNeg) (rg_P pa pb pc) (rg_P qa qb qc) (rg_en R1 R2 ri s))) : wpX_callSegment pq (sl, wl, dl, st, fa, ri, si, so, ac, rg_P pa pb pc, rg_P qa qb qc, fc, cx, L, F, R1, R2, R3, GC, GO, W, H, SC, FR) s o := by
  unfold wpX_callSegment
  exact xl_placeFault c1 (fun hd => br_f rg_1 (h1 hd)) (fun hd h => br_f rg_2 (h2 hd h)) (fun hd h => br_t rfl (xl_isCallable (rg_DI c1 hd) (fun hm => br_f rg_1 ⟨rg_DI c1 hd, br_c (fun hr => xl_call53 (rg_DI c1 hd) hS b1 hF c3 p1 p2 p3 q1 q2 q3 (h5 hd h hm (Or.inl hr)) (h6 hd h hm (Or.inl hr))) (fun hr => xl_isGate (rg_D8' c1 hd) (hS _).2.2.2.2 (fun hg => br_f rg_1 (xl_call53 (rg_DI c1 hd) hS b1 hF c3 p1 p2 p3 q1 q2 q3 (h5 hd h hm (Or.inr hg)) (h6 hd h hm (Or.inr hg)))) (fun hg => br_t rfl (h4 hd h hm hr hg)))⟩) (fun hm => br_t rfl (h3 hd h hm))))
theorem xl_ret (b1 : rg_B 8 ri) (hF : rg_Fs fc FR) (h1 : fc = 0 → pq 9 (sl, wl, dl, st, fa, ri, si, so, ac, P, Q, fc, cx, L, F, R1, R2, R3, GC, GO, W, H, SC, FR)) (h2 : ¬ fc = 0 → pq 0 (sl, wl, dl, st, fa, FR ((fc - 1) * 6 + 1).toNatClampNeg, FR ((fc - 1) * 6 + 0).toNatClampNeg / 256, FR ((fc - 1) * 6 + 0).toNatClampNeg - FR ((fc - 1) * 6 + 0).toNatClampNeg / 256 * 256, ac, FR ((fc - 1) * 6 + 3).toNatClampNeg, FR ((fc - 1) * 6 + 4).toNatClampNeg, fc - 1, cx, L, F, R1, R2, R3, GC, GO, W, upd H ri.toNatClampNeg (FR ((fc - 1) * 6 + 2).toNatClampNeg), SC, FR)) : wpX_returnToCaller pq (sl, wl, dl, st, fa, ri, si, so, ac, P, Q, fc, cx, L, F, R1, R2, R3, GC, GO, W, H, SC, FR) :=
  br_c h1 (fun h => nm_e ⟨rg_fI hF h 0 (by decide), nm_e ⟨rg_fI hF h 2 (by decide), rg_Bin b1 (by decide), nm_e ⟨rg_fI hF h 1 (by decide), nm_e ⟨by decide, nm_e ⟨by decide, nm_e ⟨rg_fI hF h 3 (by decide), nm_e ⟨rg_fI hF h 4 (by decide), nm_e (nm_e (h2 h))⟩⟩⟩⟩⟩⟩⟩)
theorem xr_1  (hp : pq 0 (sl, wl, dl, st, fa, ri, si, so + 1, w &&& 65535, rg_P pa pb pc, rg_P qa qb qc, fc, cx, L, F, R1, R2, R3, GC, GO, W, H, SC, FR)) : wpX_executeOnRegisters pq (sl, wl, dl, st, fa, ri, si, so, ac, rg_P pa pb pc, rg_P qa qb qc, fc, cx, L, F, R1, R2, R3, GC, GO, W, H, SC, FR) 1 w :=
  nm_e (nm_e (nm_e (br_f (by decide) (br_f (by decide) (br_t rfl (nm_e hp))))))
theorem xr_2  (hp : pq 0 (sl, wl, dl, st, fa, ri, si, so + 1, ac + (w &&& 65535), rg_P pa pb pc, rg_P qa qb qc, fc, cx, L, F, R1, R2, R3, GC, GO, W, H, SC, FR)) : wpX_executeOnRegisters pq (sl, wl, dl, st, fa, ri, si, so, ac, rg_P pa pb pc, rg_P qa qb qc, fc, cx, L, F, R1, R2, R3, GC, GO, W, H, SC, FR) 2 w :=
  nm_e (nm_e (nm_e (br_f (by decide) (br_f (by decide) (br_f (by decide) (br_t rfl (nm_e (nm_e hp))))))))
theorem xr_3  (hp : pq 0 (sl, wl, dl, st, fa, ri, si, so + 1, ac, rg_P (((w).toUInt32 >>> ((8 : Int32).toUInt32 &&& Int32.toUInt32 31)).toInt32 &&& 255) (w &&& 255) ri, rg_P qa qb qc, fc, cx, L, F, R1, R2, R3, GC, GO, W, H, SC, FR)) : wpX_executeOnRegisters pq (sl, wl, dl, st, fa, ri, si, so, ac, rg_P pa pb pc, rg_P qa qb qc, fc, cx, L, F, R1, R2, R3, GC, GO, W, H, SC, FR) 3 w :=
  nm_e (nm_e (nm_e (br_f (by decide) (br_f (by decide) (br_f (by decide) (br_f (by decide) (br_t rfl (nm_e hp))))))))
theorem xr_4 (p1 : rg_B 256 pa) (p2 : rg_B 256 pb) (p3 : rg_B 8 pc) (hp : pq 0 (sl, wl, dl, st, fa, ri, si, so + 1, ac, rg_P pa ((pb + (w &&& 255)) &&& 255) pc, rg_P qa qb qc, fc, cx, L, F, R1, R2, R3, GC, GO, W, H, SC, FR)) : wpX_executeOnRegisters pq (sl, wl, dl, st, fa, ri, si, so, ac, rg_P pa pb pc, rg_P qa qb qc, fc, cx, L, F, R1, R2, R3, GC, GO, W, H, SC, FR) 4 w :=
  nm_e (nm_e (nm_e (br_f (by decide) (br_f (by decide) (br_f (by decide) (br_f (by decide) (br_f (by decide) (br_t rfl (xl_advance p1 p2 p3 (nm_e hp))))))))))
theorem xr_5  (hp : pq 0 (sl, wl, dl, st, fa, ri, si, so + 1, ac, rg_P qa qb qc, rg_P pa pb pc, fc, cx, L, F, R1, R2, R3, GC, GO, W, H, SC, FR)) : wpX_executeOnRegisters pq (sl, wl, dl, st, fa, ri, si, so, ac, rg_P pa pb pc, rg_P qa qb qc, fc, cx, L, F, R1, R2, R3, GC, GO, W, H, SC, FR) 5 w :=
  nm_e (nm_e (nm_e (br_f (by decide) (br_f (by decide) (br_f (by decide) (br_f (by decide) (br_f (by decide) (br_f (by decide) (br_t rfl (nm_e hp))))))))))
theorem xr_14  (hp : pq 0 (sl, wl, dl, st, fa, ri, si, so + 1, ri, rg_P pa pb pc, rg_P qa qb qc, fc, cx, L, F, R1, R2, R3, GC, GO, W, H, SC, FR)) : wpX_executeOnRegisters pq (sl, wl, dl, st, fa, ri, si, so, ac, rg_P pa pb pc, rg_P qa qb qc, fc, cx, L, F, R1, R2, R3, GC, GO, W, H, SC, FR) 14 w :=
  nm_e (nm_e (nm_e (br_f (by decide) (br_f (by decide) (br_f (by decide) (br_f (by decide) (br_f (by decide) (br_f (by decide) (br_f (by decide) (br_f (by decide) (br_f (by decide) (br_f (by decide) (br_f (by decide) (br_f (by decide) (br_f (by decide) (br_f (by decide) (br_f (by decide) (br_t rfl (nm_e hp)))))))))))))))))))
theorem xr_15 (p1 : rg_B 256 pa) (p2 : rg_B 256 pb) (p3 : rg_B 8 pc) (hp : pq 0 (sl, wl, dl, st, fa, ri, si, so + 1, pc, rg_P pa pb pc, rg_P qa qb qc, fc, cx, L, F, R1, R2, R3, GC, GO, W, H, SC, FR)) : wpX_executeOnRegisters pq (sl, wl, dl, st, fa, ri, si, so, ac, rg_P pa pb pc, rg_P qa qb qc, fc, cx, L, F, R1, R2, R3, GC, GO, W, H, SC, FR) 15 w :=
  nm_e (nm_e (nm_e (br_f (by decide) (br_f (by decide) (br_f (by decide) (br_f (by decide) (br_f (by decide) (br_f (by decide) (br_f (by decide) (br_f (by decide) (br_f (by decide) (br_f (by decide) (br_f (by decide) (br_f (by decide) (br_f (by decide) (br_f (by decide) (br_f (by decide) (br_f (by decide) (br_t rfl (xl_pRing p1 p2 p3 (nm_e hp)))))))))))))))))))))
theorem xr_d (h : 15 < k) (h0 : ¬ k < 1) (hp : pq 10 (sl, wl, dl, st, fa, ri, si, so, ac, rg_P pa pb pc, rg_P qa qb qc, fc, cx, L, F, R1, R2, R3, GC, GO, W, H, SC, FR)) : wpX_executeOnRegisters pq (sl, wl, dl, st, fa, ri, si, so, ac, rg_P pa pb pc, rg_P qa qb qc, fc, cx, L, F, R1, R2, R3, GC, GO, W, H, SC, FR) k w :=
  nm_e (nm_e (nm_e (br_f h0 (br_t h hp))))
end
end
section
section
variable {sl wl dl st fa ri si so ac pa pb pc qa qb qc cx cy fc : Int32} {D L F R1 R2 R3 GC GO W FR H SC : Nat → Int32}
variable {p : Int32 → Prop} {ps : SY → Prop} {pq : Int32 → SY → Prop} {s o e k w x y v z : Int32}
theorem yl_defined (c1 : rg_B 9 sl) (hD : rg_Dd D L) (ht : rg_D sl L s → p 1) (hf : ¬ rg_D sl L s → p 0) : wpY_defined p (sl, wl, dl, st, fa, ri, si, so, ac, pa, pb, pc, qa, qb, qc, cy, fc, D, L, F, R1, R2, R3, GC, GO, W, FR, H, SC) s :=
  br_c (fun h => hf fun z => z.1 h) (fun h0 => br_c (fun h => hf fun z => z.2.1 h) (fun h1 => ⟨rg_Dv c1 h0 h1, br_c (fun h => hf fun z => z.2.2 ((hD _).mp h)) (fun h2 => ht ⟨h0, h1, fun z => h2 ((hD _).mpr z)⟩)⟩))
theorem yl_gateLoop (hs : rg_B 8 s) (ht : rg_G GC GO s o → p 1) (hf : ¬ rg_G GC GO s o → p 0) : ∀ d i : Nat, i + d = 4 → (∀ j, j < i → ¬ GC s.toNatClampNeg ≤ nI j → ¬ GO (s * 4 + nI j).toNatClampNeg = o) → wY_isGate_2 p s o sl wl dl st fa ri si so ac pa pb pc qa qb qc cy fc D L F R1 R2 R3 GC GO W FR H SC (d + 1) (nI i) := by
  intro d
  induction d with
  | zero =>
    intro i hi hn
    refine br_t (nI_le (a := 4) (by omega) (by omega)) (hf ?_)
    rintro ⟨j, hj, h1, h2⟩
    exact hn j (by omega) h1 h2
  | succ d ih =>
    intro i hi hn
    refine br_f (nI_ge (b := 4) (by omega) (by omega)) ⟨rg_Bin hs (by decide), br_c (fun h => nm_r (nI_1 i) (ih (i + 1) (by omega) ?_)) (fun h => ⟨rg_i4 hs ⟨i, by omega, rfl⟩, br_c (fun h2 => ht ⟨i, by omega, h, h2⟩) (fun h2 => nm_r (nI_1 i) (ih (i + 1) (by omega) ?_))⟩)⟩
    · intro j hj h1
      by_cases e : j = i
      · rw [e] at h1; exact absurd h h1
      · exact hn j (by omega) h1
    · intro j hj h1
      by_cases e : j = i
      · rw [e]; exact h2
      · exact hn j (by omega) h1
theorem yl_isGate (hs : rg_B 8 s) (ht : rg_G GC GO s o → p 1) (hf : ¬ rg_G GC GO s o → p 0) : wpY_isGate p (sl, wl, dl, st, fa, ri, si, so, ac, pa, pb, pc, qa, qb, qc, cy, fc, D, L, F, R1, R2, R3, GC, GO, W, FR, H, SC) s o :=
  ⟨5, yl_gateLoop hs ht hf 4 0 rfl (fun j hj => absurd hj (Nat.not_lt_zero j))⟩
theorem yl_ruleF (c1 : rg_B 9 sl) (hD : rg_Dd D L) (hw : ¬ rg_W sl L s o) (hp : p 0) : wpY_rule p (sl, wl, dl, st, fa, ri, si, so, ac, pa, pb, pc, qa, qb, qc, cy, fc, D, L, F, R1, R2, R3, GC, GO, W, FR, H, SC) s o e k := by
  unfold wpY_rule
  exact yl_defined c1 hD (fun hd => br_f rg_1 (br_c (fun _ => hp) (fun h0 => ⟨rg_DI c1 hd, br_c (fun h1 => absurd ⟨hd, h0, rg_nle.mpr h1⟩ hw) (fun _ => hp)⟩))) (fun _ => br_t rfl hp)
theorem yl_rule0 (c1 : rg_B 9 sl) (hD : rg_Dd D L) (hw : rg_W sl L s o) (ht : rg_MR F R2 s e → p 1) (hf : ¬ rg_MR F R2 s e → p 0) : wpY_rule p (sl, wl, dl, st, fa, ri, si, so, ac, pa, pb, pc, qa, qb, qc, cy, fc, D, L, F, R1, R2, R3, GC, GO, W, FR, H, SC) s o e 0 := by
  unfold wpY_rule
  exact yl_defined c1 hD (fun hd => br_f rg_1 (br_f hw.2.1 ⟨rg_DI c1 hd, br_t (rg_nle.mp hw.2.2) ⟨rg_DI c1 hd, nm_e (br_t rfl (br_c (fun h => hf fun z => z.1 h) (fun h => ⟨rg_DI c1 hd, br_c (fun h1 => hf fun z => z.2 h1) (fun h1 => ht ⟨h, h1⟩)⟩)))⟩⟩)) (fun hd => absurd hw.1 hd)
theorem yl_rule1 (c1 : rg_B 9 sl) (hD : rg_Dd D L) (hw : rg_W sl L s o) (ht : rg_MW F R1 s e → p 1) (hf : ¬ rg_MW F R1 s e → p 0) : wpY_rule p (sl, wl, dl, st, fa, ri, si, so, ac, pa, pb, pc, qa, qb, qc, cy, fc, D, L, F, R1, R2, R3, GC, GO, W, FR, H, SC) s o e 1 := by
  unfold wpY_rule
  exact yl_defined c1 hD (fun hd => br_f rg_1 (br_f hw.2.1 ⟨rg_DI c1 hd, br_t (rg_nle.mp hw.2.2) ⟨rg_DI c1 hd, nm_e (br_f (by decide) (br_t rfl (br_c (fun h => hf fun z => z.1 h) (fun h => ⟨rg_DI c1 hd, br_c (fun h1 => hf fun z => z.2 h1) (fun h1 => ht ⟨h, h1⟩)⟩))))⟩⟩)) (fun hd => absurd hw.1 hd)
theorem yl_rule2 (c1 : rg_B 9 sl) (hD : rg_Dd D L) (hw : rg_W sl L s o) (ht : rg_MX F R1 R2 s e → p 1) (hf : ¬ rg_MX F R1 R2 s e → p 0) : wpY_rule p (sl, wl, dl, st, fa, ri, si, so, ac, pa, pb, pc, qa, qb, qc, cy, fc, D, L, F, R1, R2, R3, GC, GO, W, FR, H, SC) s o e 2 := by
  unfold wpY_rule
  exact yl_defined c1 hD (fun hd => br_f rg_1 (br_f hw.2.1 ⟨rg_DI c1 hd, br_t (rg_nle.mp hw.2.2) ⟨rg_DI c1 hd, nm_e (br_f (by decide) (br_f (by decide) (br_t rfl (br_c (fun h => hf fun z => z.1 h) (fun h => ⟨rg_DI c1 hd, br_c (fun h1 => hf fun z => z.2.1 h1) (fun h1 => ⟨rg_DI c1 hd, br_c (fun h2 => hf fun z => z.2.2 h2) (fun h2 => ht ⟨h, h1, h2⟩)⟩)⟩)))))⟩⟩)) (fun hd => absurd hw.1 hd)
theorem yl_rule3 (c1 : rg_B 9 sl) (hD : rg_Dd D L) (hw : rg_W sl L s o) (ht : rg_MC F R3 s e → (e ≤ R2 s.toNatClampNeg ∨ rg_G GC GO s o) → p 1) (hf : ¬ (rg_MC F R3 s e ∧ (e ≤ R2 s.toNatClampNeg ∨ rg_G GC GO s o)) → p 0) : wpY_rule p (sl, wl, dl, st, fa, ri, si, so, ac, pa, pb, pc, qa, qb, qc, cy, fc, D, L, F, R1, R2, R3, GC, GO, W, FR, H, SC) s o e 3 := by
  unfold wpY_rule
  exact yl_defined c1 hD (fun hd => br_f rg_1 (br_f hw.2.1 ⟨rg_DI c1 hd, br_t (rg_nle.mp hw.2.2) ⟨rg_DI c1 hd, nm_e (br_f (by decide) (br_f (by decide) (br_f (by decide) (br_t rfl (br_c (fun h => hf fun z => z.1.1 h) (fun h => ⟨rg_DI c1 hd, br_c (fun h1 => hf fun z => z.1.2 h1) (fun h1 => ⟨rg_DI c1 hd, br_c (fun h2 => ht ⟨h, h1⟩ (Or.inl h2)) (fun h2 => yl_isGate (rg_D8' c1 hd) (fun hg => br_f rg_1 (ht ⟨h, h1⟩ (Or.inr hg))) (fun hg => br_t rfl (hf fun z => z.2.elim h2 hg)))⟩)⟩))))))⟩⟩)) (fun hd => absurd hw.1 hd)
theorem yl_fail (h : pq 0 (sl, wl, dl, 3, k, ri, si, so, ac, pa, pb, pc, qa, qb, qc, cy, fc, D, L, F, R1, R2, R3, GC, GO, W, FR, H, SC)) : wpY_fail pq (sl, wl, dl, st, fa, ri, si, so, ac, pa, pb, pc, qa, qb, qc, cy, fc, D, L, F, R1, R2, R3, GC, GO, W, FR, H, SC) k := h
theorem y_38 (h : pq 0 (sl, wl, dl, 3, 2, ri, si, so, ac, pa, pb, pc, qa, qb, qc, cy, fc, D, L, F, R1, R2, R3, GC, GO, W, FR, H, SC)) : wY_step_38 pq sl wl dl st fa ri si so ac pa pb pc qa qb qc cy fc D L F R1 R2 R3 GC GO W FR H SC := by
  unfold wY_step_38
  exact yl_fail (And.intro rfl h)
theorem y_800 (h : pq 0 (sl, wl, dl, 3, 6, ri, si, so, ac, pa, pb, pc, qa, qb, qc, cy, fc, D, L, F, R1, R2, R3, GC, GO, W, FR, H, SC)) : wY_step_800 pq sl wl dl st fa ri si so ac pa pb pc qa qb qc cy fc D L F R1 R2 R3 GC GO W FR H SC := by
  unfold wY_step_800
  exact yl_fail (And.intro rfl h)
theorem ys_0 (hp : pq 1 (sl, wl, dl, 2, fa, ri, si, so, ac, pa, pb, pc, qa, qb, qc, cy, fc, D, L, F, R1, R2, R3, GC, GO, W, FR, H, SC)) : wY_step_131 pq si so 0 x y v z sl wl dl st fa ri si so ac pa pb pc qa qb qc cy fc D L F R1 R2 R3 GC GO W FR H SC :=
  (br_t rfl hp)
theorem ys_1 (hp : pq 1 (sl, wl, dl, st, fa, ri, si, so + 1, v, pa, pb, pc, qa, qb, qc, cy, fc, D, L, F, R1, R2, R3, GC, GO, W, FR, H, SC)) : wY_step_131 pq si so 1 x y v z sl wl dl st fa ri si so ac pa pb pc qa qb qc cy fc D L F R1 R2 R3 GC GO W FR H SC :=
  (br_f (by decide) (br_t rfl (nm_e hp)))
theorem ys_2 (hp : pq 1 (sl, wl, dl, st, fa, ri, si, so + 1, ac + v, pa, pb, pc, qa, qb, qc, cy, fc, D, L, F, R1, R2, R3, GC, GO, W, FR, H, SC)) : wY_step_131 pq si so 2 x y v z sl wl dl st fa ri si so ac pa pb pc qa qb qc cy fc D L F R1 R2 R3 GC GO W FR H SC :=
  (br_f (by decide) (br_f (by decide) (br_t rfl (nm_e (nm_e hp)))))
theorem ys_3 (hp : pq 1 (sl, wl, dl, st, fa, ri, si, so + 1, ac, x, y, ri, qa, qb, qc, cy, fc, D, L, F, R1, R2, R3, GC, GO, W, FR, H, SC)) : wY_step_131 pq si so 3 x y v z sl wl dl st fa ri si so ac pa pb pc qa qb qc cy fc D L F R1 R2 R3 GC GO W FR H SC :=
  (br_f (by decide) (br_f (by decide) (br_f (by decide) (br_t rfl (nm_e hp)))))
theorem ys_4 (hp : pq 1 (sl, wl, dl, st, fa, ri, si, so + 1, ac, pa, (pb + y) &&& 255, pc, qa, qb, qc, cy, fc, D, L, F, R1, R2, R3, GC, GO, W, FR, H, SC)) : wY_step_131 pq si so 4 x y v z sl wl dl st fa ri si so ac pa pb pc qa qb qc cy fc D L F R1 R2 R3 GC GO W FR H SC :=
  (br_f (by decide) (br_f (by decide) (br_f (by decide) (br_f (by decide) (br_t rfl (nm_e (nm_e hp)))))))
theorem ys_5 (hp : pq 1 (sl, wl, dl, st, fa, ri, si, so + 1, ac, qa, qb, qc, pa, pb, pc, cy, fc, D, L, F, R1, R2, R3, GC, GO, W, FR, H, SC)) : wY_step_131 pq si so 5 x y v z sl wl dl st fa ri si so ac pa pb pc qa qb qc cy fc D L F R1 R2 R3 GC GO W FR H SC :=
  (br_f (by decide) (br_f (by decide) (br_f (by decide) (br_f (by decide) (br_f (by decide) (br_t rfl (nm_e hp)))))))
theorem ys_10 (hp : pq 1 (sl, wl, dl, st, fa, ri, si, y, ac, pa, pb, pc, qa, qb, qc, cy, fc, D, L, F, R1, R2, R3, GC, GO, W, FR, H, SC)) : wY_step_131 pq si so 10 x y v z sl wl dl st fa ri si so ac pa pb pc qa qb qc cy fc D L F R1 R2 R3 GC GO W FR H SC :=
  (br_f (by decide) (br_f (by decide) (br_f (by decide) (br_f (by decide) (br_f (by decide) (br_f (by decide) (br_f (by decide) (br_f (by decide) (br_f (by decide) (br_f (by decide) (br_t rfl hp)))))))))))
theorem ys_11 (h1 : ac = 0 → pq 1 (sl, wl, dl, st, fa, ri, si, y, ac, pa, pb, pc, qa, qb, qc, cy, fc, D, L, F, R1, R2, R3, GC, GO, W, FR, H, SC)) (h2 : ¬ ac = 0 → pq 1 (sl, wl, dl, st, fa, ri, si, so + 1, ac, pa, pb, pc, qa, qb, qc, cy, fc, D, L, F, R1, R2, R3, GC, GO, W, FR, H, SC)) : wY_step_131 pq si so 11 x y v z sl wl dl st fa ri si so ac pa pb pc qa qb qc cy fc D L F R1 R2 R3 GC GO W FR H SC :=
  (br_f (by decide) (br_f (by decide) (br_f (by decide) (br_f (by decide) (br_f (by decide) (br_f (by decide) (br_f (by decide) (br_f (by decide) (br_f (by decide) (br_f (by decide) (br_f (by decide) (br_t rfl (br_c h1 (fun h => nm_e (h2 h)))))))))))))))
theorem ys_14 (hp : pq 1 (sl, wl, dl, st, fa, ri, si, so + 1, ri, pa, pb, pc, qa, qb, qc, cy, fc, D, L, F, R1, R2, R3, GC, GO, W, FR, H, SC)) : wY_step_131 pq si so 14 x y v z sl wl dl st fa ri si so ac pa pb pc qa qb qc cy fc D L F R1 R2 R3 GC GO W FR H SC :=
  (br_f (by decide) (br_f (by decide) (br_f (by decide) (br_f (by decide) (br_f (by decide) (br_f (by decide) (br_f (by decide) (br_f (by decide) (br_f (by decide) (br_f (by decide) (br_f (by decide) (br_f (by decide) (br_f (by decide) (br_f (by decide) (br_t rfl (nm_e hp))))))))))))))))
theorem ys_15 (hp : pq 1 (sl, wl, dl, st, fa, ri, si, so + 1, pc, pa, pb, pc, qa, qb, qc, cy, fc, D, L, F, R1, R2, R3, GC, GO, W, FR, H, SC)) : wY_step_131 pq si so 15 x y v z sl wl dl st fa ri si so ac pa pb pc qa qb qc cy fc D L F R1 R2 R3 GC GO W FR H SC :=
  (br_f (by decide) (br_f (by decide) (br_f (by decide) (br_f (by decide) (br_f (by decide) (br_f (by decide) (br_f (by decide) (br_f (by decide) (br_f (by decide) (br_f (by decide) (br_f (by decide) (br_f (by decide) (br_f (by decide) (br_f (by decide) (br_f (by decide) (br_t rfl (nm_e hp)))))))))))))))))
theorem ys_d (hn : ∀ i : Nat, i < 16 → ¬ k = nI i) (hp : pq 0 (sl, wl, dl, 3, 10, ri, si, so, ac, pa, pb, pc, qa, qb, qc, cy, fc, D, L, F, R1, R2, R3, GC, GO, W, FR, H, SC)) : wY_step_131 pq si so k x y v z sl wl dl st fa ri si so ac pa pb pc qa qb qc cy fc D L F R1 R2 R3 GC GO W FR H SC :=
  (br_f (hn 0 (by decide)) (br_f (hn 1 (by decide)) (br_f (hn 2 (by decide)) (br_f (hn 3 (by decide)) (br_f (hn 4 (by decide)) (br_f (hn 5 (by decide)) (br_f (hn 6 (by decide)) (br_f (hn 7 (by decide)) (br_f (hn 8 (by decide)) (br_f (hn 9 (by decide)) (br_f (hn 10 (by decide)) (br_f (hn 11 (by decide)) (br_f (hn 12 (by decide)) (br_f (hn 13 (by decide)) (br_f (hn 14 (by decide)) (br_f (hn 15 (by decide)) (yl_fail (And.intro rfl hp))))))))))))))))))
theorem ys_ld (c1 : rg_B 9 sl) (hD : rg_Dd D L) (hS : rg_Seg L R1 R2 GC) (p2 : rg_B 256 pb) (h1 : ¬ rg_D sl L pa → pq 0 (sl, wl, dl, 3, 1, ri, si, so, ac, pa, pb, pc, qa, qb, qc, cy, fc, D, L, F, R1, R2, R3, GC, GO, W, FR, H, SC)) (h2 : rg_D sl L pa → L pa.toNatClampNeg ≤ pb → pq 0 (sl, wl, dl, 3, 2, ri, si, so, ac, pa, pb, pc, qa, qb, qc, cy, fc, D, L, F, R1, R2, R3, GC, GO, W, FR, H, SC)) (h3 : rg_D sl L pa → ¬ L pa.toNatClampNeg ≤ pb → ¬ rg_MR F R2 pa z → pq 0 (sl, wl, dl, 3, 4, ri, si, so, ac, pa, pb, pc, qa, qb, qc, cy, fc, D, L, F, R1, R2, R3, GC, GO, W, FR, H, SC)) (h4 : rg_D sl L pa → ¬ L pa.toNatClampNeg ≤ pb → rg_MR F R2 pa z → pq 1 (sl, wl, dl, st, fa, ri, si, so + 1, W (pa * 32 + pb).toNatClampNeg, pa, pb, pc, qa, qb, qc, cy, fc, D, L, F, R1, R2, R3, GC, GO, W, FR, H, SC)) : wY_step_346 pq so 6 z sl wl dl st fa ri si so ac pa pb pc qa qb qc cy fc D L F R1 R2 R3 GC GO W FR H SC := by
  unfold wY_step_346
  exact yl_defined c1 hD (fun hd => br_f rg_1 ⟨rg_DI c1 hd, br_c (fun hl => br_t rfl (yl_rule0 c1 hD ⟨hd, rg_Bn p2 (by decide), rg_nle.mpr hl⟩ (fun hm => br_f rg_1 ⟨rg_i32 (rg_D8' c1 hd) (rg_O32 hS _ (rg_Bn p2 (by decide)) (rg_nle.mpr hl)), nm_e (nm_e (h4 hd (rg_nle.mpr hl) hm))⟩) (fun hm => br_t rfl (yl_fail (And.intro rfl (h3 hd (rg_nle.mpr hl) hm)))))) (fun hl => yl_fail (And.intro rfl (h2 hd (rg_nl.mp hl))))⟩) (fun hd => br_t rfl (yl_fail (And.intro rfl (h1 hd))))
theorem ys_st (c1 : rg_B 9 sl) (hD : rg_Dd D L) (hS : rg_Seg L R1 R2 GC) (p2 : rg_B 256 pb) (h1 : ¬ rg_D sl L pa → pq 0 (sl, wl, dl, 3, 1, ri, si, so, ac, pa, pb, pc, qa, qb, qc, cy, fc, D, L, F, R1, R2, R3, GC, GO, W, FR, H, SC)) (h2 : rg_D sl L pa → L pa.toNatClampNeg ≤ pb → pq 0 (sl, wl, dl, 3, 2, ri, si, so, ac, pa, pb, pc, qa, qb, qc, cy, fc, D, L, F, R1, R2, R3, GC, GO, W, FR, H, SC)) (h3 : rg_D sl L pa → ¬ L pa.toNatClampNeg ≤ pb → ¬ rg_MW F R1 pa z → pq 0 (sl, wl, dl, 3, 5, ri, si, so, ac, pa, pb, pc, qa, qb, qc, cy, fc, D, L, F, R1, R2, R3, GC, GO, W, FR, H, SC)) (h4 : rg_D sl L pa → ¬ L pa.toNatClampNeg ≤ pb → rg_MW F R1 pa z → pq 1 (sl, wl, dl, st, fa, ri, si, so + 1, ac, pa, pb, pc, qa, qb, qc, cy, fc, D, L, F, R1, R2, R3, GC, GO, upd W (pa * 32 + pb).toNatClampNeg ac, FR, H, SC)) : wY_step_346 pq so 7 z sl wl dl st fa ri si so ac pa pb pc qa qb qc cy fc D L F R1 R2 R3 GC GO W FR H SC := by
  unfold wY_step_346
  exact yl_defined c1 hD (fun hd => br_f rg_1 ⟨rg_DI c1 hd, br_c (fun hl => br_f (by decide) (yl_rule1 c1 hD ⟨hd, rg_Bn p2 (by decide), rg_nle.mpr hl⟩ (fun hm => br_f rg_1 ⟨rg_i32 (rg_D8' c1 hd) (rg_O32 hS _ (rg_Bn p2 (by decide)) (rg_nle.mpr hl)), nm_e (nm_e (h4 hd (rg_nle.mpr hl) hm))⟩) (fun hm => br_t rfl (yl_fail (And.intro rfl (h3 hd (rg_nle.mpr hl) hm)))))) (fun hl => yl_fail (And.intro rfl (h2 hd (rg_nl.mp hl))))⟩) (fun hd => br_t rfl (yl_fail (And.intro rfl (h1 hd))))
theorem ys_6 (hp : wY_step_346 pq so 6 z sl wl dl st fa ri si so ac pa pb pc qa qb qc cy fc D L F R1 R2 R3 GC GO W FR H SC) : wY_step_131 pq si so 6 x y v z sl wl dl st fa ri si so ac pa pb pc qa qb qc cy fc D L F R1 R2 R3 GC GO W FR H SC :=
  (br_f (by decide) (br_f (by decide) (br_f (by decide) (br_f (by decide) (br_f (by decide) (br_f (by decide) (br_t rfl hp)))))))
theorem ys_7 (hp : wY_step_346 pq so 7 z sl wl dl st fa ri si so ac pa pb pc qa qb qc cy fc D L F R1 R2 R3 GC GO W FR H SC) : wY_step_131 pq si so 7 x y v z sl wl dl st fa ri si so ac pa pb pc qa qb qc cy fc D L F R1 R2 R3 GC GO W FR H SC :=
  (br_f (by decide) (br_f (by decide) (br_f (by decide) (br_f (by decide) (br_f (by decide) (br_f (by decide) (br_f (by decide) (br_t rfl hp))))))))
theorem ys_8 (b1 : rg_B 8 ri) (c3 : rg_B 17 dl) (hH : rg_Hs H) (h1 : ¬ H ri.toNatClampNeg < dl → pq 0 (sl, wl, dl, 3, 8, ri, si, so, ac, pa, pb, pc, qa, qb, qc, cy, fc, D, L, F, R1, R2, R3, GC, GO, W, FR, H, SC)) (h2 : H ri.toNatClampNeg < dl → pq 1 (sl, wl, dl, st, fa, ri, si, so + 1, ac, pa, pb, pc, qa, qb, qc, cy, fc, D, L, F, R1, R2, R3, GC, GO, W, FR, upd H ri.toNatClampNeg (H ri.toNatClampNeg + 1), upd SC (ri * 16 + H ri.toNatClampNeg).toNatClampNeg ac)) : wY_step_131 pq si so 8 x y v z sl wl dl st fa ri si so ac pa pb pc qa qb qc cy fc D L F R1 R2 R3 GC GO W FR H SC :=
  (br_f (by decide) (br_f (by decide) (br_f (by decide) (br_f (by decide) (br_f (by decide) (br_f (by decide) (br_f (by decide) (br_f (by decide) (br_t rfl ⟨rg_Bin b1 (by decide), br_c (fun h => ⟨rg_Bin b1 (by decide), rg_i16 b1 (rg_Bl (n := 16) c3 (by decide) (rg_Bn (hH _) (by decide)) h), nm_e ⟨rg_Bin b1 (by decide), rg_Bin b1 (by decide), nm_e (nm_e (h2 h))⟩⟩) (fun h => yl_fail (And.intro rfl (h1 h)))⟩)))))))))
theorem ys_613 (b1 : rg_B 8 ri) (h1 : ¬ z < H ri.toNatClampNeg → pq 0 (sl, wl, dl, 3, 8, ri, si, so, ac, pa, pb, pc, qa, qb, qc, cy, fc, D, L, F, R1, R2, R3, GC, GO, W, FR, H, SC)) (h2 : z < H ri.toNatClampNeg → vp_in (ri * 16 + (H ri.toNatClampNeg - 1)) 128 ∧ pq 1 (sl, wl, dl, st, fa, ri, si, so + 1, SC (ri * 16 + (H ri.toNatClampNeg - 1)).toNatClampNeg, pa, pb, pc, qa, qb, qc, cy, fc, D, L, F, R1, R2, R3, GC, GO, W, FR, upd H ri.toNatClampNeg (H ri.toNatClampNeg - 1), SC)) : wY_step_613 pq so z sl wl dl st fa ri si so ac pa pb pc qa qb qc cy fc D L F R1 R2 R3 GC GO W FR H SC := by
  have e : upd H ri.toNatClampNeg (H ri.toNatClampNeg - 1) ri.toNatClampNeg = H ri.toNatClampNeg - 1 := pk_us
  refine And.intro (rg_Bin b1 (by decide)) (br_c (fun h => ⟨rg_Bin b1 (by decide), rg_Bin b1 (by decide), nm_e ⟨rg_Bin b1 (by decide), ?_⟩⟩) (fun h => yl_fail (And.intro rfl (h1 h))))
  rw [e]
  exact ⟨(h2 h).1, nm_e (nm_e (h2 h).2)⟩
theorem ys_9 (hF : rg_Fs fc FR) (hp : wY_step_613 pq so (rg_fl fc FR) sl wl dl st fa ri si so ac pa pb pc qa qb qc cy fc D L F R1 R2 R3 GC GO W FR H SC) : wY_step_131 pq si so 9 x y v z sl wl dl st fa ri si so ac pa pb pc qa qb qc cy fc D L F R1 R2 R3 GC GO W FR H SC := by
  unfold rg_fl at hp
  refine (br_f (by decide) (br_f (by decide) (br_f (by decide) (br_f (by decide) (br_f (by decide) (br_f (by decide) (br_f (by decide) (br_f (by decide) (br_f (by decide) (br_t rfl ?_))))))))))
  by_cases h : fc = 0
  · rw [if_pos h] at hp
    exact br_t (by rw [h]; decide) hp
  · rw [if_neg h] at hp
    refine br_f ?_ ⟨rg_fI hF h 2 (by decide), hp⟩
    obtain ⟨f, hf, e, _⟩ := rg_fB hF h
    rw [e]
    exact nI_nle (by omega) (by omega)
end
end
section
theorem rg_mxp {a b : Int32} (h : a ≤ b) : rg_mx a b = b := if_pos h
theorem rg_mxn {a b : Int32} (h : ¬ a ≤ b) : rg_mx a b = a := if_neg h
theorem rg_frY {FR : Nat → Int32} {fc ret ri fl P Q n : Int32} (hf : rg_B 16 fc) : upd (upd (upd (upd (upd (upd FR (fc * 6 + 0).toNatClampNeg ret) (fc * 6 + 1).toNatClampNeg ri) (fc * 6 + 5).toNatClampNeg n) (fc * 6 + 2).toNatClampNeg fl) (fc * 6 + 3).toNatClampNeg P) (fc * 6 + 4).toNatClampNeg Q = rg_fr FR (fc * 6) ret ri fl P Q n := by
  obtain ⟨f, hf, rfl⟩ := hf
  have e2 : (nI f * 6 + 2).toNatClampNeg = f * 6 + 2 := rg_c6 (o := 2) hf (by decide)
  have e3 : (nI f * 6 + 3).toNatClampNeg = f * 6 + 3 := rg_c6 (o := 3) hf (by decide)
  have e4 : (nI f * 6 + 4).toNatClampNeg = f * 6 + 4 := rg_c6 (o := 4) hf (by decide)
  have e5 : (nI f * 6 + 5).toNatClampNeg = f * 6 + 5 := rg_c6 (o := 5) hf (by decide)
  unfold rg_fr
  rw [e2, e3, e4, e5, rg_ucomm (i := f * 6 + 5) (j := f * 6 + 2) (by omega), rg_ucomm (i := f * 6 + 5) (j := f * 6 + 3) (by omega), rg_ucomm (i := f * 6 + 5) (j := f * 6 + 4) (by omega)]
section
variable {sl wl dl st fa ri si so ac pa pb pc qa qb qc cx cy fc : Int32} {D L F R1 R2 R3 GC GO W FR H SC : Nat → Int32}
variable {p : Int32 → Prop} {ps : SY → Prop} {pq : Int32 → SY → Prop} {s o e k w x y v z : Int32}
theorem ys_909 (b1 : rg_B 8 k) (hf : rg_B 16 fc) (hp : pq 1 (sl, wl, dl, st, fa, k, s, o, ac, pa, pb, rg_mx ri pc, qa, qb, rg_mx ri qc, cy, fc + 1, D, L, F, R1, R2, R3, GC, GO, W, rg_fr FR (fc * 6) (si * 256 + so + 1) ri (H (k).toNatClampNeg) (rg_P pa pb pc) (rg_P qa qb qc) (k), H, SC)) : wY_step_909 pq si so s o k sl wl dl st fa ri si so ac pa pb pc qa qb qc cy fc D L F R1 R2 R3 GC GO W FR H SC := by
  refine nm_e ⟨rg_i6 (o := nI 0) hf ⟨0, by decide, rfl⟩, nm_e ⟨rg_i6 (o := nI 1) hf ⟨1, by decide, rfl⟩, nm_e ⟨rg_i6 (o := nI 5) hf ⟨5, by decide, rfl⟩, nm_e ⟨rg_Bin b1 (by decide), rg_i6 (o := nI 2) hf ⟨2, by decide, rfl⟩, nm_e ⟨rg_i6 (o := nI 3) hf ⟨3, by decide, rfl⟩, nm_e ⟨rg_i6 (o := nI 4) hf ⟨4, by decide, rfl⟩, nm_r (rg_frY hf) (nm_e ?_)⟩⟩⟩⟩⟩⟩
  by_cases a : ri ≤ pc
  · by_cases b : ri ≤ qc
    · rw [rg_mxp a, rg_mxp b] at hp; exact br_t a (br_t b hp)
    · rw [rg_mxp a, rg_mxn b] at hp; exact br_t a (br_f b hp)
  · by_cases b : ri ≤ qc
    · rw [rg_mxn a, rg_mxp b] at hp; exact br_f a (br_t b hp)
    · rw [rg_mxn a, rg_mxn b] at hp; exact br_f a (br_f b hp)
theorem ys_839 (hv : vp_in s 8) (hS : rg_Seg L R1 R2 GC) (h1 : ¬ fc < dl → pq 0 (sl, wl, dl, 3, 9, ri, si, so, ac, pa, pb, pc, qa, qb, qc, cy, fc, D, L, F, R1, R2, R3, GC, GO, W, FR, H, SC)) (h2 : fc < dl → wY_step_909 pq si so s o (rg_en R1 R2 ri s) sl wl dl st fa ri si so ac pa pb pc qa qb qc cy fc D L F R1 R2 R3 GC GO W FR H SC) : wY_step_839 pq si so s o sl wl dl st fa ri si so ac pa pb pc qa qb qc cy fc D L F R1 R2 R3 GC GO W FR H SC := by
  refine br_c (fun h => And.intro hv ?_) (fun h => yl_fail (And.intro rfl (h1 h)))
  have h3 := h2 h
  unfold rg_en at h3
  by_cases a : R1 s.toNatClampNeg ≤ ri
  · rw [if_pos a] at h3
    refine br_t a ?_
    by_cases b : ri ≤ R2 s.toNatClampNeg
    · rw [if_pos b] at h3
      exact And.intro hv (br_t b h3)
    · rw [if_neg b] at h3
      exact And.intro hv (br_f b ⟨hv, nm_e h3⟩)
  · rw [if_neg a] at h3
    have b : ri ≤ R2 s.toNatClampNeg := Int32.le_trans (Int32.le_of_lt (rg_nle.mp a)) (hS s.toNatClampNeg).2.2.2.1
    exact br_f a ⟨hv, nm_e (And.intro hv (br_t b h3))⟩
theorem ys_12 (c1 : rg_B 9 sl) (hD : rg_Dd D L) (hS : rg_Seg L R1 R2 GC) (b1 : rg_B 8 ri) (hF : rg_Fs fc FR) (c3 : rg_B 17 dl) (h1 : ¬ rg_D sl L s → pq 0 (sl, wl, dl, 3, 1, ri, si, so, ac, pa, pb, pc, qa, qb, qc, cy, fc, D, L, F, R1, R2, R3, GC, GO, W, FR, H, SC)) (h2 : rg_D sl L s → L s.toNatClampNeg ≤ o → pq 0 (sl, wl, dl, 3, 2, ri, si, so, ac, pa, pb, pc, qa, qb, qc, cy, fc, D, L, F, R1, R2, R3, GC, GO, W, FR, H, SC)) (h3 : rg_D sl L s → ¬ L s.toNatClampNeg ≤ o → ¬ rg_MC F R3 s ri → pq 0 (sl, wl, dl, 3, 6, ri, si, so, ac, pa, pb, pc, qa, qb, qc, cy, fc, D, L, F, R1, R2, R3, GC, GO, W, FR, H, SC)) (h4 : rg_D sl L s → ¬ L s.toNatClampNeg ≤ o → rg_MC F R3 s ri → ¬ ri ≤ R2 s.toNatClampNeg → ¬ rg_G GC GO s o → pq 0 (sl, wl, dl, 3, 7, ri, si, so, ac, pa, pb, pc, qa, qb, qc, cy, fc, D, L, F, R1, R2, R3, GC, GO, W, FR, H, SC)) (h5 : rg_D sl L s → ¬ L s.toNatClampNeg ≤ o → rg_MC F R3 s ri → (ri ≤ R2 s.toNatClampNeg ∨ rg_G GC GO s o) → ¬ fc < dl → pq 0 (sl, wl, dl, 3, 9, ri, si, so, ac, pa, pb, pc, qa, qb, qc, cy, fc, D, L, F, R1, R2, R3, GC, GO, W, FR, H, SC)) (h6 : rg_D sl L s → ¬ L s.toNatClampNeg ≤ o → rg_MC F R3 s ri → (ri ≤ R2 s.toNatClampNeg ∨ rg_G GC GO s o) → fc < dl → pq 1 (sl, wl, dl, st, fa, rg_en R1 R2 ri s, s, o, ac, pa, pb, rg_mx ri pc, qa, qb, rg_mx ri qc, cy, fc + 1, D, L, F, R1, R2, R3, GC, GO, W, rg_fr FR (fc * 6) (si * 256 + so + 1) ri (H (rg_en R1 R2 ri s).toNatClampNeg) (rg_P pa pb pc) (rg_P qa qb qc) (rg_en R1 R2 ri s), H, SC)) : wY_step_131 pq si so 12 s o v z sl wl dl st fa ri si so ac pa pb pc qa qb qc cy fc D L F R1 R2 R3 GC GO W FR H SC := by
  have hf : fc < dl → rg_B 16 fc := by
    intro h
    obtain ⟨n, hn, e, _⟩ := hF
    exact rg_Bl (n := 16) c3 (by decide) (rg_Bn ⟨n, hn, e⟩ (by decide)) h
  refine (br_f (by decide) (br_f (by decide) (br_f (by decide) (br_f (by decide) (br_f (by decide) (br_f (by decide) (br_f (by decide) (br_f (by decide) (br_f (by decide) (br_f (by decide) (br_f (by decide) (br_f (by decide) (br_t rfl (yl_defined c1 hD (fun hd => br_f rg_1 ⟨rg_DI c1 hd, br_c (fun hl => ⟨rg_DI c1 hd, br_c (fun hz => y_800 (h3 hd (rg_nle.mpr hl) (fun u => u.1 hz))) (fun hz => ⟨rg_DI c1 hd, br_c (fun hr => ⟨rg_DI c1 hd, br_c (fun hq => ?_) (fun hq => yl_isGate (rg_D8' c1 hd) (fun hg => br_f rg_1 ?_) (fun hg => br_t rfl (yl_fail (And.intro rfl (h4 hd (rg_nle.mpr hl) ⟨hz, rg_nl.mpr hr⟩ hq hg)))))⟩) (fun hr => y_800 (h3 hd (rg_nle.mpr hl) (fun u => hr (rg_nl.mp u.2))))⟩)⟩) (fun hl => yl_fail (And.intro rfl (h2 hd (rg_nl.mp hl))))⟩) (fun hd => br_t rfl (yl_fail (And.intro rfl (h1 hd))))))))))))))))))
  · exact ys_839 (rg_DI c1 hd) hS (h5 hd (rg_nle.mpr hl) ⟨hz, rg_nl.mpr hr⟩ (Or.inl hq)) (fun h => ys_909 (rg_en8 hS b1) (hf h) (h6 hd (rg_nle.mpr hl) ⟨hz, rg_nl.mpr hr⟩ (Or.inl hq) h))
  · exact ys_839 (rg_DI c1 hd) hS (h5 hd (rg_nle.mpr hl) ⟨hz, rg_nl.mpr hr⟩ (Or.inr hg)) (fun h => ys_909 (rg_en8 hS b1) (hf h) (h6 hd (rg_nle.mpr hl) ⟨hz, rg_nl.mpr hr⟩ (Or.inr hg) h))
theorem ys_13 (b1 : rg_B 8 ri) (hF : rg_Fs fc FR) (h1 : fc = 0 → pq 0 (sl, wl, dl, 3, 9, ri, si, so, ac, pa, pb, pc, qa, qb, qc, cy, fc, D, L, F, R1, R2, R3, GC, GO, W, FR, H, SC)) (h2 : ¬ fc = 0 → pq 1 (sl, wl, dl, st, fa, FR ((fc - 1) * 6 + 1).toNatClampNeg, FR ((fc - 1) * 6 + 0).toNatClampNeg / 256, FR ((fc - 1) * 6 + 0).toNatClampNeg - FR ((fc - 1) * 6 + 0).toNatClampNeg / 256 * 256, ac, ((FR ((fc - 1) * 6 + 3).toNatClampNeg).toUInt32 >>> ((16 : Int32).toUInt32 &&& Int32.toUInt32 31)).toInt32 &&& 255, ((FR ((fc - 1) * 6 + 3).toNatClampNeg).toUInt32 >>> ((8 : Int32).toUInt32 &&& Int32.toUInt32 31)).toInt32 &&& 255, FR ((fc - 1) * 6 + 3).toNatClampNeg &&& 255, ((FR ((fc - 1) * 6 + 4).toNatClampNeg).toUInt32 >>> ((16 : Int32).toUInt32 &&& Int32.toUInt32 31)).toInt32 &&& 255, ((FR ((fc - 1) * 6 + 4).toNatClampNeg).toUInt32 >>> ((8 : Int32).toUInt32 &&& Int32.toUInt32 31)).toInt32 &&& 255, FR ((fc - 1) * 6 + 4).toNatClampNeg &&& 255, cy, fc - 1, D, L, F, R1, R2, R3, GC, GO, W, FR, upd H ri.toNatClampNeg (FR ((fc - 1) * 6 + 2).toNatClampNeg), SC)) : wY_step_131 pq si so 13 x y v z sl wl dl st fa ri si so ac pa pb pc qa qb qc cy fc D L F R1 R2 R3 GC GO W FR H SC :=
  (br_f (by decide) (br_f (by decide) (br_f (by decide) (br_f (by decide) (br_f (by decide) (br_f (by decide) (br_f (by decide) (br_f (by decide) (br_f (by decide) (br_f (by decide) (br_f (by decide) (br_f (by decide) (br_f (by decide) (br_t rfl (br_c (fun h => yl_fail (And.intro rfl (h1 h))) (fun h => nm_e ⟨rg_fI hF h 2 (by decide), rg_Bin b1 (by decide), nm_e ⟨rg_fI hF h 1 (by decide), nm_e ⟨rg_fI hF h 0 (by decide), nm_e ⟨by decide, nm_e ⟨by decide, nm_e ⟨rg_fI hF h 3 (by decide), nm_e (nm_e (nm_e (nm_e ⟨rg_fI hF h 4 (by decide), nm_e (nm_e (nm_e (nm_e (nm_e (h2 h)))))⟩)))⟩⟩⟩⟩⟩⟩))))))))))))))))
theorem ys_pre (c1 : rg_B 9 sl) (hD : rg_Dd D L) (hS : rg_Seg L R1 R2 GC) (b3 : rg_B 256 so) (h1 : ¬ rg_D sl L si → pq 0 (sl, wl, dl, 3, 1, ri, si, so, ac, pa, pb, pc, qa, qb, qc, cy, fc, D, L, F, R1, R2, R3, GC, GO, W, FR, H, SC)) (h2 : rg_D sl L si → L si.toNatClampNeg ≤ so → pq 0 (sl, wl, dl, 3, 2, ri, si, so, ac, pa, pb, pc, qa, qb, qc, cy, fc, D, L, F, R1, R2, R3, GC, GO, W, FR, H, SC)) (h3 : rg_D sl L si → ¬ L si.toNatClampNeg ≤ so → ¬ rg_MX F R1 R2 si ri → pq 0 (sl, wl, dl, 3, 3, ri, si, so, ac, pa, pb, pc, qa, qb, qc, cy, fc, D, L, F, R1, R2, R3, GC, GO, W, FR, H, SC)) (h4 : rg_D sl L si → ¬ L si.toNatClampNeg ≤ so → rg_MX F R1 R2 si ri → wY_step_131 pq si so (((W (si * 32 + so).toNatClampNeg).toUInt32 >>> ((16 : Int32).toUInt32 &&& Int32.toUInt32 31)).toInt32 &&& 255) (((W (si * 32 + so).toNatClampNeg).toUInt32 >>> ((8 : Int32).toUInt32 &&& Int32.toUInt32 31)).toInt32 &&& 255) (W (si * 32 + so).toNatClampNeg &&& 255) (W (si * 32 + so).toNatClampNeg &&& 65535) (rg_mx ri pc) sl wl dl st fa ri si so ac pa pb pc qa qb qc cy fc D L F R1 R2 R3 GC GO W FR H SC) : wpY_step pq (sl, wl, dl, st, fa, ri, si, so, ac, pa, pb, pc, qa, qb, qc, cy, fc, D, L, F, R1, R2, R3, GC, GO, W, FR, H, SC) := by
  unfold wpY_step
  refine yl_defined c1 hD (fun hd => br_f rg_1 (br_f (rg_Bn b3 (by decide)) ⟨rg_DI c1 hd, br_c (fun hl => yl_rule2 c1 hD ⟨hd, rg_Bn b3 (by decide), rg_nle.mpr hl⟩ (fun hx => br_f rg_1 ⟨rg_i32 (rg_D8' c1 hd) (rg_O32 hS _ (rg_Bn b3 (by decide)) (rg_nle.mpr hl)), nm_e (nm_e (nm_e (nm_e (nm_e ?_))))⟩) (fun hx => br_t rfl (yl_fail (And.intro rfl (h3 hd (rg_nle.mpr hl) hx))))) (fun hl => y_38 (h2 hd (rg_nl.mp hl)))⟩)) (fun hd => br_t rfl (yl_fail (And.intro rfl (h1 hd))))
  have h5 := h4 hd (rg_nle.mpr hl) hx
  by_cases a : ri ≤ pc
  · rw [rg_mxp a] at h5; exact br_t a h5
  · rw [rg_mxn a] at h5; exact br_f a h5
end
section
variable {sl wl dl st fa ri si so ac pa pb pc qa qb qc fc cx : Int32} {L F R1 R2 R3 GC GO W H SC FR : Nat → Int32}
variable {pq K : Int32 → SX → Prop} {s o e k w : Int32}
theorem x_168 (hp : ∀ K' : Int32 → SX → Prop, (∀ r sl1 wl1 dl1 st1 fa1 ri1 si1 so1 ac1 P1 Q1 fc1 cx1 L1 F1 R11 R21 R31 GC1 GO1 W1 H1 SC1 FR1, K r (sl1, wl1, dl1, st1, fa1, ri1, si1, so1, ac1, P1, Q1, fc1, cx1, L1, F1, R11, R21, R31, GC1, GO1, W1, H1, SC1, FR1) → K' r (sl1, wl1, dl1, st1, fa1, ri1, si1, so1, ac1, P1, Q1, fc1, cx1, L1, F1, R11, R21, R31, GC1, GO1, W1, H1, SC1, FR1)) → wpX_executeOnRegisters K' (sl, wl, dl, st, fa, ri, si, so, ac, rg_P pa pb pc, rg_P qa qb qc, fc, cx, L, F, R1, R2, R3, GC, GO, W, H, SC, FR) k w) : wX_execute_168 K w k sl wl dl st fa ri si so ac (rg_P pa pb pc) (rg_P qa qb qc) fc cx L F R1 R2 R3 GC GO W H SC FR := by
  unfold wX_execute_168
  exact hp _ (fun _ _ _ _ _ _ _ _ _ _ _ _ _ _ _ _ _ _ _ _ _ _ _ _ _ h => h)
theorem xe_0 (hop : ((w).toUInt32 >>> ((16 : Int32).toUInt32 &&& Int32.toUInt32 31)).toInt32 &&& 255 = 0) (hp : K 0 (sl, wl, dl, 2, fa, ri, si, so, ac, rg_P pa pb pc, rg_P qa qb qc, fc, cx, L, F, R1, R2, R3, GC, GO, W, H, SC, FR)) : wpX_execute K (sl, wl, dl, st, fa, ri, si, so, ac, rg_P pa pb pc, rg_P qa qb qc, fc, cx, L, F, R1, R2, R3, GC, GO, W, H, SC, FR) w :=
  nm_r hop (nm_e (nm_e (br_f (by decide) (br_f (by decide) (br_t rfl hp)))))
theorem xe_1 (hop : ((w).toUInt32 >>> ((16 : Int32).toUInt32 &&& Int32.toUInt32 31)).toInt32 &&& 255 = 1) (hp : ∀ K' : Int32 → SX → Prop, (∀ r sl1 wl1 dl1 st1 fa1 ri1 si1 so1 ac1 P1 Q1 fc1 cx1 L1 F1 R11 R21 R31 GC1 GO1 W1 H1 SC1 FR1, K r (sl1, wl1, dl1, st1, fa1, ri1, si1, so1, ac1, P1, Q1, fc1, cx1, L1, F1, R11, R21, R31, GC1, GO1, W1, H1, SC1, FR1) → K' r (sl1, wl1, dl1, st1, fa1, ri1, si1, so1, ac1, P1, Q1, fc1, cx1, L1, F1, R11, R21, R31, GC1, GO1, W1, H1, SC1, FR1)) → wpX_executeOnRegisters K' (sl, wl, dl, st, fa, ri, si, so, ac, rg_P pa pb pc, rg_P qa qb qc, fc, cx, L, F, R1, R2, R3, GC, GO, W, H, SC, FR) 1 w) : wpX_execute K (sl, wl, dl, st, fa, ri, si, so, ac, rg_P pa pb pc, rg_P qa qb qc, fc, cx, L, F, R1, R2, R3, GC, GO, W, H, SC, FR) w :=
  nm_r hop (nm_e (nm_e (br_f (by decide) (br_f (by decide) (br_f (by decide) (br_t rfl (x_168 hp)))))))
theorem xe_2 (hop : ((w).toUInt32 >>> ((16 : Int32).toUInt32 &&& Int32.toUInt32 31)).toInt32 &&& 255 = 2) (hp : ∀ K' : Int32 → SX → Prop, (∀ r sl1 wl1 dl1 st1 fa1 ri1 si1 so1 ac1 P1 Q1 fc1 cx1 L1 F1 R11 R21 R31 GC1 GO1 W1 H1 SC1 FR1, K r (sl1, wl1, dl1, st1, fa1, ri1, si1, so1, ac1, P1, Q1, fc1, cx1, L1, F1, R11, R21, R31, GC1, GO1, W1, H1, SC1, FR1) → K' r (sl1, wl1, dl1, st1, fa1, ri1, si1, so1, ac1, P1, Q1, fc1, cx1, L1, F1, R11, R21, R31, GC1, GO1, W1, H1, SC1, FR1)) → wpX_executeOnRegisters K' (sl, wl, dl, st, fa, ri, si, so, ac, rg_P pa pb pc, rg_P qa qb qc, fc, cx, L, F, R1, R2, R3, GC, GO, W, H, SC, FR) 2 w) : wpX_execute K (sl, wl, dl, st, fa, ri, si, so, ac, rg_P pa pb pc, rg_P qa qb qc, fc, cx, L, F, R1, R2, R3, GC, GO, W, H, SC, FR) w :=
  nm_r hop (nm_e (nm_e (br_f (by decide) (br_f (by decide) (br_f (by decide) (br_f (by decide) (br_t rfl (x_168 hp))))))))
theorem xe_3 (hop : ((w).toUInt32 >>> ((16 : Int32).toUInt32 &&& Int32.toUInt32 31)).toInt32 &&& 255 = 3) (hp : ∀ K' : Int32 → SX → Prop, (∀ r sl1 wl1 dl1 st1 fa1 ri1 si1 so1 ac1 P1 Q1 fc1 cx1 L1 F1 R11 R21 R31 GC1 GO1 W1 H1 SC1 FR1, K r (sl1, wl1, dl1, st1, fa1, ri1, si1, so1, ac1, P1, Q1, fc1, cx1, L1, F1, R11, R21, R31, GC1, GO1, W1, H1, SC1, FR1) → K' r (sl1, wl1, dl1, st1, fa1, ri1, si1, so1, ac1, P1, Q1, fc1, cx1, L1, F1, R11, R21, R31, GC1, GO1, W1, H1, SC1, FR1)) → wpX_executeOnRegisters K' (sl, wl, dl, st, fa, ri, si, so, ac, rg_P pa pb pc, rg_P qa qb qc, fc, cx, L, F, R1, R2, R3, GC, GO, W, H, SC, FR) 3 w) : wpX_execute K (sl, wl, dl, st, fa, ri, si, so, ac, rg_P pa pb pc, rg_P qa qb qc, fc, cx, L, F, R1, R2, R3, GC, GO, W, H, SC, FR) w :=
  nm_r hop (nm_e (nm_e (br_f (by decide) (br_f (by decide) (br_f (by decide) (br_f (by decide) (br_f (by decide) (br_t rfl (x_168 hp)))))))))
theorem xe_4 (hop : ((w).toUInt32 >>> ((16 : Int32).toUInt32 &&& Int32.toUInt32 31)).toInt32 &&& 255 = 4) (hp : ∀ K' : Int32 → SX → Prop, (∀ r sl1 wl1 dl1 st1 fa1 ri1 si1 so1 ac1 P1 Q1 fc1 cx1 L1 F1 R11 R21 R31 GC1 GO1 W1 H1 SC1 FR1, K r (sl1, wl1, dl1, st1, fa1, ri1, si1, so1, ac1, P1, Q1, fc1, cx1, L1, F1, R11, R21, R31, GC1, GO1, W1, H1, SC1, FR1) → K' r (sl1, wl1, dl1, st1, fa1, ri1, si1, so1, ac1, P1, Q1, fc1, cx1, L1, F1, R11, R21, R31, GC1, GO1, W1, H1, SC1, FR1)) → wpX_executeOnRegisters K' (sl, wl, dl, st, fa, ri, si, so, ac, rg_P pa pb pc, rg_P qa qb qc, fc, cx, L, F, R1, R2, R3, GC, GO, W, H, SC, FR) 4 w) : wpX_execute K (sl, wl, dl, st, fa, ri, si, so, ac, rg_P pa pb pc, rg_P qa qb qc, fc, cx, L, F, R1, R2, R3, GC, GO, W, H, SC, FR) w :=
  nm_r hop (nm_e (nm_e (br_f (by decide) (br_f (by decide) (br_f (by decide) (br_f (by decide) (br_f (by decide) (br_f (by decide) (br_t rfl (x_168 hp))))))))))
theorem xe_5 (hop : ((w).toUInt32 >>> ((16 : Int32).toUInt32 &&& Int32.toUInt32 31)).toInt32 &&& 255 = 5) (hp : ∀ K' : Int32 → SX → Prop, (∀ r sl1 wl1 dl1 st1 fa1 ri1 si1 so1 ac1 P1 Q1 fc1 cx1 L1 F1 R11 R21 R31 GC1 GO1 W1 H1 SC1 FR1, K r (sl1, wl1, dl1, st1, fa1, ri1, si1, so1, ac1, P1, Q1, fc1, cx1, L1, F1, R11, R21, R31, GC1, GO1, W1, H1, SC1, FR1) → K' r (sl1, wl1, dl1, st1, fa1, ri1, si1, so1, ac1, P1, Q1, fc1, cx1, L1, F1, R11, R21, R31, GC1, GO1, W1, H1, SC1, FR1)) → wpX_executeOnRegisters K' (sl, wl, dl, st, fa, ri, si, so, ac, rg_P pa pb pc, rg_P qa qb qc, fc, cx, L, F, R1, R2, R3, GC, GO, W, H, SC, FR) 5 w) : wpX_execute K (sl, wl, dl, st, fa, ri, si, so, ac, rg_P pa pb pc, rg_P qa qb qc, fc, cx, L, F, R1, R2, R3, GC, GO, W, H, SC, FR) w :=
  nm_r hop (nm_e (nm_e (br_f (by decide) (br_f (by decide) (br_f (by decide) (br_f (by decide) (br_f (by decide) (br_f (by decide) (br_f (by decide) (br_t rfl (x_168 hp)))))))))))
theorem xe_14 (hop : ((w).toUInt32 >>> ((16 : Int32).toUInt32 &&& Int32.toUInt32 31)).toInt32 &&& 255 = 14) (hp : ∀ K' : Int32 → SX → Prop, (∀ r sl1 wl1 dl1 st1 fa1 ri1 si1 so1 ac1 P1 Q1 fc1 cx1 L1 F1 R11 R21 R31 GC1 GO1 W1 H1 SC1 FR1, K r (sl1, wl1, dl1, st1, fa1, ri1, si1, so1, ac1, P1, Q1, fc1, cx1, L1, F1, R11, R21, R31, GC1, GO1, W1, H1, SC1, FR1) → K' r (sl1, wl1, dl1, st1, fa1, ri1, si1, so1, ac1, P1, Q1, fc1, cx1, L1, F1, R11, R21, R31, GC1, GO1, W1, H1, SC1, FR1)) → wpX_executeOnRegisters K' (sl, wl, dl, st, fa, ri, si, so, ac, rg_P pa pb pc, rg_P qa qb qc, fc, cx, L, F, R1, R2, R3, GC, GO, W, H, SC, FR) 14 w) : wpX_execute K (sl, wl, dl, st, fa, ri, si, so, ac, rg_P pa pb pc, rg_P qa qb qc, fc, cx, L, F, R1, R2, R3, GC, GO, W, H, SC, FR) w :=
  nm_r hop (nm_e (nm_e (br_f (by decide) (br_t (by decide) (x_168 hp)))))
theorem xe_15 (hop : ((w).toUInt32 >>> ((16 : Int32).toUInt32 &&& Int32.toUInt32 31)).toInt32 &&& 255 = 15) (hp : ∀ K' : Int32 → SX → Prop, (∀ r sl1 wl1 dl1 st1 fa1 ri1 si1 so1 ac1 P1 Q1 fc1 cx1 L1 F1 R11 R21 R31 GC1 GO1 W1 H1 SC1 FR1, K r (sl1, wl1, dl1, st1, fa1, ri1, si1, so1, ac1, P1, Q1, fc1, cx1, L1, F1, R11, R21, R31, GC1, GO1, W1, H1, SC1, FR1) → K' r (sl1, wl1, dl1, st1, fa1, ri1, si1, so1, ac1, P1, Q1, fc1, cx1, L1, F1, R11, R21, R31, GC1, GO1, W1, H1, SC1, FR1)) → wpX_executeOnRegisters K' (sl, wl, dl, st, fa, ri, si, so, ac, rg_P pa pb pc, rg_P qa qb qc, fc, cx, L, F, R1, R2, R3, GC, GO, W, H, SC, FR) 15 w) : wpX_execute K (sl, wl, dl, st, fa, ri, si, so, ac, rg_P pa pb pc, rg_P qa qb qc, fc, cx, L, F, R1, R2, R3, GC, GO, W, H, SC, FR) w :=
  nm_r hop (nm_e (nm_e (br_f (by decide) (br_t (by decide) (x_168 hp)))))
theorem xe_6 (hop : ((w).toUInt32 >>> ((16 : Int32).toUInt32 &&& Int32.toUInt32 31)).toInt32 &&& 255 = 6) (hp : ∀ K' : Int32 → SX → Prop, (∀ r sl1 wl1 dl1 st1 fa1 ri1 si1 so1 ac1 P1 Q1 fc1 cx1 L1 F1 R11 R21 R31 GC1 GO1 W1 H1 SC1 FR1, K r (sl1, wl1, dl1, st1, fa1, ri1, si1, so1, ac1, P1, Q1, fc1, cx1, L1, F1, R11, R21, R31, GC1, GO1, W1, H1, SC1, FR1) → K' r (sl1, wl1, dl1, st1, fa1, ri1, si1, so1, ac1, P1, Q1, fc1, cx1, L1, F1, R11, R21, R31, GC1, GO1, W1, H1, SC1, FR1)) → wpX_load K' (sl, wl, dl, st, fa, ri, si, so, ac, rg_P pa pb pc, rg_P qa qb qc, fc, cx, L, F, R1, R2, R3, GC, GO, W, H, SC, FR)) : wpX_execute K (sl, wl, dl, st, fa, ri, si, so, ac, rg_P pa pb pc, rg_P qa qb qc, fc, cx, L, F, R1, R2, R3, GC, GO, W, H, SC, FR) w :=
  nm_r hop (nm_e (nm_e (br_f (by decide) (br_f (by decide) (br_f (by decide) (br_f (by decide) (br_f (by decide) (br_f (by decide) (br_f (by decide) (br_f (by decide) (br_t rfl (hp _ (fun _ _ _ _ _ _ _ _ _ _ _ _ _ _ _ _ _ _ _ _ _ _ _ _ _ h => h)))))))))))))
theorem xe_7 (hop : ((w).toUInt32 >>> ((16 : Int32).toUInt32 &&& Int32.toUInt32 31)).toInt32 &&& 255 = 7) (hp : ∀ K' : Int32 → SX → Prop, (∀ r sl1 wl1 dl1 st1 fa1 ri1 si1 so1 ac1 P1 Q1 fc1 cx1 L1 F1 R11 R21 R31 GC1 GO1 W1 H1 SC1 FR1, K r (sl1, wl1, dl1, st1, fa1, ri1, si1, so1, ac1, P1, Q1, fc1, cx1, L1, F1, R11, R21, R31, GC1, GO1, W1, H1, SC1, FR1) → K' r (sl1, wl1, dl1, st1, fa1, ri1, si1, so1, ac1, P1, Q1, fc1, cx1, L1, F1, R11, R21, R31, GC1, GO1, W1, H1, SC1, FR1)) → wpX_store K' (sl, wl, dl, st, fa, ri, si, so, ac, rg_P pa pb pc, rg_P qa qb qc, fc, cx, L, F, R1, R2, R3, GC, GO, W, H, SC, FR)) : wpX_execute K (sl, wl, dl, st, fa, ri, si, so, ac, rg_P pa pb pc, rg_P qa qb qc, fc, cx, L, F, R1, R2, R3, GC, GO, W, H, SC, FR) w :=
  nm_r hop (nm_e (nm_e (br_f (by decide) (br_f (by decide) (br_f (by decide) (br_f (by decide) (br_f (by decide) (br_f (by decide) (br_f (by decide) (br_f (by decide) (br_f (by decide) (br_t rfl (hp _ (fun _ _ _ _ _ _ _ _ _ _ _ _ _ _ _ _ _ _ _ _ _ _ _ _ _ h => h))))))))))))))
theorem xe_8 (hop : ((w).toUInt32 >>> ((16 : Int32).toUInt32 &&& Int32.toUInt32 31)).toInt32 &&& 255 = 8) (hp : ∀ K' : Int32 → SX → Prop, (∀ r sl1 wl1 dl1 st1 fa1 ri1 si1 so1 ac1 P1 Q1 fc1 cx1 L1 F1 R11 R21 R31 GC1 GO1 W1 H1 SC1 FR1, K r (sl1, wl1, dl1, st1, fa1, ri1, si1, so1, ac1, P1, Q1, fc1, cx1, L1, F1, R11, R21, R31, GC1, GO1, W1, H1, SC1, FR1) → K' r (sl1, wl1, dl1, st1, fa1, ri1, si1, so1, ac1, P1, Q1, fc1, cx1, L1, F1, R11, R21, R31, GC1, GO1, W1, H1, SC1, FR1)) → wpX_push K' (sl, wl, dl, st, fa, ri, si, so, ac, rg_P pa pb pc, rg_P qa qb qc, fc, cx, L, F, R1, R2, R3, GC, GO, W, H, SC, FR)) : wpX_execute K (sl, wl, dl, st, fa, ri, si, so, ac, rg_P pa pb pc, rg_P qa qb qc, fc, cx, L, F, R1, R2, R3, GC, GO, W, H, SC, FR) w :=
  nm_r hop (nm_e (nm_e (br_f (by decide) (br_f (by decide) (br_f (by decide) (br_f (by decide) (br_f (by decide) (br_f (by decide) (br_f (by decide) (br_f (by decide) (br_f (by decide) (br_f (by decide) (br_t rfl (hp _ (fun _ _ _ _ _ _ _ _ _ _ _ _ _ _ _ _ _ _ _ _ _ _ _ _ _ h => h)))))))))))))))
theorem xe_9 (hop : ((w).toUInt32 >>> ((16 : Int32).toUInt32 &&& Int32.toUInt32 31)).toInt32 &&& 255 = 9) (hp : ∀ K' : Int32 → SX → Prop, (∀ r sl1 wl1 dl1 st1 fa1 ri1 si1 so1 ac1 P1 Q1 fc1 cx1 L1 F1 R11 R21 R31 GC1 GO1 W1 H1 SC1 FR1, K r (sl1, wl1, dl1, st1, fa1, ri1, si1, so1, ac1, P1, Q1, fc1, cx1, L1, F1, R11, R21, R31, GC1, GO1, W1, H1, SC1, FR1) → K' r (sl1, wl1, dl1, st1, fa1, ri1, si1, so1, ac1, P1, Q1, fc1, cx1, L1, F1, R11, R21, R31, GC1, GO1, W1, H1, SC1, FR1)) → wpX_pop K' (sl, wl, dl, st, fa, ri, si, so, ac, rg_P pa pb pc, rg_P qa qb qc, fc, cx, L, F, R1, R2, R3, GC, GO, W, H, SC, FR)) : wpX_execute K (sl, wl, dl, st, fa, ri, si, so, ac, rg_P pa pb pc, rg_P qa qb qc, fc, cx, L, F, R1, R2, R3, GC, GO, W, H, SC, FR) w :=
  nm_r hop (nm_e (nm_e (br_f (by decide) (br_f (by decide) (br_f (by decide) (br_f (by decide) (br_f (by decide) (br_f (by decide) (br_f (by decide) (br_f (by decide) (br_f (by decide) (br_f (by decide) (br_f (by decide) (br_t rfl (hp _ (fun _ _ _ _ _ _ _ _ _ _ _ _ _ _ _ _ _ _ _ _ _ _ _ _ _ h => h))))))))))))))))
theorem xe_13 (hop : ((w).toUInt32 >>> ((16 : Int32).toUInt32 &&& Int32.toUInt32 31)).toInt32 &&& 255 = 13) (hp : ∀ K' : Int32 → SX → Prop, (∀ r sl1 wl1 dl1 st1 fa1 ri1 si1 so1 ac1 P1 Q1 fc1 cx1 L1 F1 R11 R21 R31 GC1 GO1 W1 H1 SC1 FR1, K r (sl1, wl1, dl1, st1, fa1, ri1, si1, so1, ac1, P1, Q1, fc1, cx1, L1, F1, R11, R21, R31, GC1, GO1, W1, H1, SC1, FR1) → K' r (sl1, wl1, dl1, st1, fa1, ri1, si1, so1, ac1, P1, Q1, fc1, cx1, L1, F1, R11, R21, R31, GC1, GO1, W1, H1, SC1, FR1)) → wpX_returnToCaller K' (sl, wl, dl, st, fa, ri, si, so, ac, rg_P pa pb pc, rg_P qa qb qc, fc, cx, L, F, R1, R2, R3, GC, GO, W, H, SC, FR)) : wpX_execute K (sl, wl, dl, st, fa, ri, si, so, ac, rg_P pa pb pc, rg_P qa qb qc, fc, cx, L, F, R1, R2, R3, GC, GO, W, H, SC, FR) w :=
  nm_r hop (nm_e (nm_e (br_f (by decide) (br_f (by decide) (br_f (by decide) (br_f (by decide) (br_f (by decide) (br_f (by decide) (br_f (by decide) (br_f (by decide) (br_f (by decide) (br_f (by decide) (br_f (by decide) (br_f (by decide) (br_f (by decide) (br_f (by decide) (br_f (by decide) (br_t rfl (hp _ (fun _ _ _ _ _ _ _ _ _ _ _ _ _ _ _ _ _ _ _ _ _ _ _ _ _ h => h))))))))))))))))))))
theorem xe_12 (hop : ((w).toUInt32 >>> ((16 : Int32).toUInt32 &&& Int32.toUInt32 31)).toInt32 &&& 255 = 12) (hp : ∀ K' : Int32 → SX → Prop, (∀ r sl1 wl1 dl1 st1 fa1 ri1 si1 so1 ac1 P1 Q1 fc1 cx1 L1 F1 R11 R21 R31 GC1 GO1 W1 H1 SC1 FR1, K r (sl1, wl1, dl1, st1, fa1, ri1, si1, so1, ac1, P1, Q1, fc1, cx1, L1, F1, R11, R21, R31, GC1, GO1, W1, H1, SC1, FR1) → K' r (sl1, wl1, dl1, st1, fa1, ri1, si1, so1, ac1, P1, Q1, fc1, cx1, L1, F1, R11, R21, R31, GC1, GO1, W1, H1, SC1, FR1)) → wpX_callSegment K' (sl, wl, dl, st, fa, ri, si, so, ac, rg_P pa pb pc, rg_P qa qb qc, fc, cx, L, F, R1, R2, R3, GC, GO, W, H, SC, FR) (((w).toUInt32 >>> ((8 : Int32).toUInt32 &&& Int32.toUInt32 31)).toInt32 &&& 255) (w &&& 255)) : wpX_execute K (sl, wl, dl, st, fa, ri, si, so, ac, rg_P pa pb pc, rg_P qa qb qc, fc, cx, L, F, R1, R2, R3, GC, GO, W, H, SC, FR) w :=
  nm_r hop (nm_e (nm_e (br_f (by decide) (br_f (by decide) (br_f (by decide) (br_f (by decide) (br_f (by decide) (br_f (by decide) (br_f (by decide) (br_f (by decide) (br_f (by decide) (br_f (by decide) (br_f (by decide) (br_f (by decide) (br_f (by decide) (br_f (by decide) (br_t rfl (hp _ (fun _ _ _ _ _ _ _ _ _ _ _ _ _ _ _ _ _ _ _ _ _ _ _ _ _ h => h)))))))))))))))))))
theorem xe_10 (hop : ((w).toUInt32 >>> ((16 : Int32).toUInt32 &&& Int32.toUInt32 31)).toInt32 &&& 255 = 10) (hp : K 0 (sl, wl, dl, st, fa, ri, si, w &&& 255, ac, rg_P pa pb pc, rg_P qa qb qc, fc, cx, L, F, R1, R2, R3, GC, GO, W, H, SC, FR)) : wpX_execute K (sl, wl, dl, st, fa, ri, si, so, ac, rg_P pa pb pc, rg_P qa qb qc, fc, cx, L, F, R1, R2, R3, GC, GO, W, H, SC, FR) w :=
  nm_r hop (nm_e (nm_e (br_f (by decide) (br_f (by decide) (br_f (by decide) (br_f (by decide) (br_f (by decide) (br_f (by decide) (br_f (by decide) (br_f (by decide) (br_f (by decide) (br_f (by decide) (br_f (by decide) (br_f (by decide) (br_t rfl hp)))))))))))))))
theorem xe_11 (hop : ((w).toUInt32 >>> ((16 : Int32).toUInt32 &&& Int32.toUInt32 31)).toInt32 &&& 255 = 11) (h1 : ac = 0 → K 0 (sl, wl, dl, st, fa, ri, si, w &&& 255, ac, rg_P pa pb pc, rg_P qa qb qc, fc, cx, L, F, R1, R2, R3, GC, GO, W, H, SC, FR)) (h2 : ¬ ac = 0 → K 0 (sl, wl, dl, st, fa, ri, si, so + 1, ac, rg_P pa pb pc, rg_P qa qb qc, fc, cx, L, F, R1, R2, R3, GC, GO, W, H, SC, FR)) : wpX_execute K (sl, wl, dl, st, fa, ri, si, so, ac, rg_P pa pb pc, rg_P qa qb qc, fc, cx, L, F, R1, R2, R3, GC, GO, W, H, SC, FR) w :=
  nm_r hop (nm_e (nm_e (br_f (by decide) (br_f (by decide) (br_f (by decide) (br_f (by decide) (br_f (by decide) (br_f (by decide) (br_f (by decide) (br_f (by decide) (br_f (by decide) (br_f (by decide) (br_f (by decide) (br_f (by decide) (br_f (by decide) (br_t rfl (br_c h1 (fun h => nm_e (h2 h)))))))))))))))))))
theorem xe_d (h0 : ¬ ((w).toUInt32 >>> ((16 : Int32).toUInt32 &&& Int32.toUInt32 31)).toInt32 &&& 255 < 0) (h1 : ¬ ((w).toUInt32 >>> ((16 : Int32).toUInt32 &&& Int32.toUInt32 31)).toInt32 &&& 255 < 1) (h13 : 13 < ((w).toUInt32 >>> ((16 : Int32).toUInt32 &&& Int32.toUInt32 31)).toInt32 &&& 255) (h15 : 15 < ((w).toUInt32 >>> ((16 : Int32).toUInt32 &&& Int32.toUInt32 31)).toInt32 &&& 255) (hp : K 10 (sl, wl, dl, st, fa, ri, si, so, ac, rg_P pa pb pc, rg_P qa qb qc, fc, cx, L, F, R1, R2, R3, GC, GO, W, H, SC, FR)) : wpX_execute K (sl, wl, dl, st, fa, ri, si, so, ac, rg_P pa pb pc, rg_P qa qb qc, fc, cx, L, F, R1, R2, R3, GC, GO, W, H, SC, FR) w :=
  nm_e (nm_e (nm_e (br_f h0 (br_t h13 (x_168 (fun K' hk => xr_d h15 h1 (hk _ _ _ _ _ _ _ _ _ _ _ _ _ _ _ _ _ _ _ _ _ _ _ _ _ hp)))))))
variable {P Q : Int32}
theorem xs_pre (c1 : rg_B 9 sl) (hS : rg_Seg L R1 R2 GC) (b3 : rg_B 256 so) (h1 : ¬ rg_D sl L si → pq 0 (sl, wl, dl, 3, 1, ri, si, so, ac, P, Q, fc, cx, L, F, R1, R2, R3, GC, GO, W, H, SC, FR)) (h2 : rg_D sl L si → L si.toNatClampNeg ≤ so → pq 0 (sl, wl, dl, 3, 2, ri, si, so, ac, P, Q, fc, cx, L, F, R1, R2, R3, GC, GO, W, H, SC, FR)) (h3 : rg_D sl L si → ¬ L si.toNatClampNeg ≤ so → ¬ rg_MX F R1 R2 si ri → pq 0 (sl, wl, dl, 3, 3, ri, si, so, ac, P, Q, fc, cx, L, F, R1, R2, R3, GC, GO, W, H, SC, FR)) (h4 : rg_D sl L si → ¬ L si.toNatClampNeg ≤ so → rg_MX F R1 R2 si ri → ∀ K' : Int32 → SX → Prop, (∀ r sl1 wl1 dl1 st1 fa1 ri1 si1 so1 ac1 P1 Q1 fc1 cx1 L1 F1 R11 R21 R31 GC1 GO1 W1 H1 SC1 FR1, wX_takeStep_31 pq r sl1 wl1 dl1 st1 fa1 ri1 si1 so1 ac1 P1 Q1 fc1 cx1 L1 F1 R11 R21 R31 GC1 GO1 W1 H1 SC1 FR1 → K' r (sl1, wl1, dl1, st1, fa1, ri1, si1, so1, ac1, P1, Q1, fc1, cx1, L1, F1, R11, R21, R31, GC1, GO1, W1, H1, SC1, FR1)) → wpX_execute K' (sl, wl, dl, st, fa, ri, si, so, ac, P, Q, fc, cx, L, F, R1, R2, R3, GC, GO, W, H, SC, FR) (W (si * 32 + so).toNatClampNeg)) : wpX_takeStep pq (sl, wl, dl, st, fa, ri, si, so, ac, P, Q, fc, cx, L, F, R1, R2, R3, GC, GO, W, H, SC, FR) := by
  unfold wpX_takeStep
  exact xl_fetchFault c1 (fun hd => br_f rg_1 (br_f rg_1 (h1 hd))) (fun hd h => br_f rg_2 (br_f rg_2 (h2 hd h))) (fun hd h hx => br_f rg_3 (br_f rg_3 (h3 hd h hx))) (fun hd h hx => br_t rfl ⟨rg_i32 (rg_D8' c1 hd) (rg_O32 hS _ (rg_Bn b3 (by decide)) h), h4 hd h hx _ (fun _ _ _ _ _ _ _ _ _ _ _ _ _ _ _ _ _ _ _ _ _ _ _ _ _ h => h)⟩)
end
end
section
/-- what holds of both states -/
def rg_Inv (sl wl dl ri si so pa pb pc qa qb qc fc : Int32) (D L R1 R2 GC H FR : Nat → Int32) : Prop :=
  rg_B 9 sl ∧ rg_B 33 wl ∧ rg_B 17 dl ∧ rg_Seg L R1 R2 GC ∧ rg_Dd D L ∧ rg_Hs H ∧ rg_Fs fc FR ∧ rg_B 8 ri ∧ rg_B 8 si ∧ rg_B 256 so ∧ rg_B 256 pa ∧ rg_B 256 pb ∧ rg_B 8 pc ∧ rg_B 256 qa ∧ rg_B 256 qb ∧ rg_B 8 qc
/-- the two states, with the counts of completed steps on both sides -/
def rg_R (cx cy : Int32) (u : SX) (v : SY) : Prop :=
  ∃ (sl wl dl st fa ri si so ac pa pb pc qa qb qc fc : Int32) (D L F R1 R2 R3 GC GO W FR H SC : Nat → Int32), u = (sl, wl, dl, st, fa, ri, si, so, ac, rg_P pa pb pc, rg_P qa qb qc, fc, cx, L, F, R1, R2, R3, GC, GO, W, H, SC, FR) ∧ v = (sl, wl, dl, st, fa, ri, si, so, ac, pa, pb, pc, qa, qb, qc, cy, fc, D, L, F, R1, R2, R3, GC, GO, W, FR, H, SC) ∧ rg_Inv sl wl dl ri si so pa pb pc qa qb qc fc D L R1 R2 GC H FR
section
variable {sl wl dl st fa ri si so ac pa pb pc qa qb qc fc cx cy : Int32} {D L F R1 R2 R3 GC GO W FR H SC : Nat → Int32}
theorem rg_mk (h : rg_Inv sl wl dl ri si so pa pb pc qa qb qc fc D L R1 R2 GC H FR) : rg_R cx cy (sl, wl, dl, st, fa, ri, si, so, ac, rg_P pa pb pc, rg_P qa qb qc, fc, cx, L, F, R1, R2, R3, GC, GO, W, H, SC, FR) (sl, wl, dl, st, fa, ri, si, so, ac, pa, pb, pc, qa, qb, qc, cy, fc, D, L, F, R1, R2, R3, GC, GO, W, FR, H, SC) :=
  ⟨sl, wl, dl, st, fa, ri, si, so, ac, pa, pb, pc, qa, qb, qc, fc, D, L, F, R1, R2, R3, GC, GO, W, FR, H, SC, rfl, rfl, h⟩
variable {w : Int32}
def rg_Ex (sl wl dl st fa ri si so ac pa pb pc qa qb qc fc cx cy w : Int32) (D L F R1 R2 R3 GC GO W FR H SC : Nat → Int32) : Prop :=
  (∃ c : Int32, ¬ c = 0 ∧ (∀ K : Int32 → SX → Prop, K c (sl, wl, dl, st, fa, ri, si, so, ac, rg_P pa pb pc, rg_P qa qb qc, fc, cx, L, F, R1, R2, R3, GC, GO, W, H, SC, FR) → wpX_execute K (sl, wl, dl, st, fa, ri, si, so, ac, rg_P pa pb pc, rg_P qa qb qc, fc, cx, L, F, R1, R2, R3, GC, GO, W, H, SC, FR) w) ∧ (∀ q : Int32 → SY → Prop, q 0 (sl, wl, dl, 3, c, ri, si, so, ac, pa, pb, pc, qa, qb, qc, cy, fc, D, L, F, R1, R2, R3, GC, GO, W, FR, H, SC) → wY_step_131 q si so (((w).toUInt32 >>> ((16 : Int32).toUInt32 &&& Int32.toUInt32 31)).toInt32 &&& 255) (((w).toUInt32 >>> ((8 : Int32).toUInt32 &&& Int32.toUInt32 31)).toInt32 &&& 255) (w &&& 255) (w &&& 65535) (rg_mx ri pc) sl wl dl st fa ri si so ac pa pb pc qa qb qc cy fc D L F R1 R2 R3 GC GO W FR H SC)) ∨
  (∃ (u : SX) (v : SY), rg_R cx cy u v ∧ (∀ K : Int32 → SX → Prop, K 0 u → wpX_execute K (sl, wl, dl, st, fa, ri, si, so, ac, rg_P pa pb pc, rg_P qa qb qc, fc, cx, L, F, R1, R2, R3, GC, GO, W, H, SC, FR) w) ∧ (∀ q : Int32 → SY → Prop, q 1 v → wY_step_131 q si so (((w).toUInt32 >>> ((16 : Int32).toUInt32 &&& Int32.toUInt32 31)).toInt32 &&& 255) (((w).toUInt32 >>> ((8 : Int32).toUInt32 &&& Int32.toUInt32 31)).toInt32 &&& 255) (w &&& 255) (w &&& 65535) (rg_mx ri pc) sl wl dl st fa ri si so ac pa pb pc qa qb qc cy fc D L F R1 R2 R3 GC GO W FR H SC))
theorem rg_so {L R1 R2 GC : Nat → Int32} {so : Int32} {k : Nat} (hS : rg_Seg L R1 R2 GC) (b3 : rg_B 256 so) (h : ¬ L k ≤ so) : rg_B 256 (so + 1) :=
  rg_Bm (rg_Bs (rg_O32 hS k (rg_Bn b3 (by decide)) h)) (by decide)
theorem st_0 (I : rg_Inv sl wl dl ri si so pa pb pc qa qb qc fc D L R1 R2 GC H FR) (hl : ¬ L si.toNatClampNeg ≤ so) (hop : ((w).toUInt32 >>> ((16 : Int32).toUInt32 &&& Int32.toUInt32 31)).toInt32 &&& 255 = 0) : rg_Ex sl wl dl st fa ri si so ac pa pb pc qa qb qc fc cx cy w D L F R1 R2 R3 GC GO W FR H SC := by
  obtain ⟨c1, c2, c3, hS, hD, hH, hF, b1, b2, b3, p1, p2, p3, q1, q2, q3⟩ := I
  have b3' := rg_so hS b3 hl
  exact Or.inr ⟨(sl, wl, dl, 2, fa, ri, si, so, ac, rg_P pa pb pc, rg_P qa qb qc, fc, cx, L, F, R1, R2, R3, GC, GO, W, H, SC, FR), (sl, wl, dl, 2, fa, ri, si, so, ac, pa, pb, pc, qa, qb, qc, cy, fc, D, L, F, R1, R2, R3, GC, GO, W, FR, H, SC), rg_mk ⟨c1, c2, c3, hS, hD, hH, hF, b1, b2, b3, p1, p2, p3, q1, q2, q3⟩, fun K hK => xe_0 hop hK, fun q hq => (by rw [hop]; exact ys_0 hq)⟩
theorem st_1 (I : rg_Inv sl wl dl ri si so pa pb pc qa qb qc fc D L R1 R2 GC H FR) (hl : ¬ L si.toNatClampNeg ≤ so) (hop : ((w).toUInt32 >>> ((16 : Int32).toUInt32 &&& Int32.toUInt32 31)).toInt32 &&& 255 = 1) : rg_Ex sl wl dl st fa ri si so ac pa pb pc qa qb qc fc cx cy w D L F R1 R2 R3 GC GO W FR H SC := by
  obtain ⟨c1, c2, c3, hS, hD, hH, hF, b1, b2, b3, p1, p2, p3, q1, q2, q3⟩ := I
  have b3' := rg_so hS b3 hl
  exact Or.inr ⟨(sl, wl, dl, st, fa, ri, si, so + 1, w &&& 65535, rg_P pa pb pc, rg_P qa qb qc, fc, cx, L, F, R1, R2, R3, GC, GO, W, H, SC, FR), (sl, wl, dl, st, fa, ri, si, so + 1, w &&& 65535, pa, pb, pc, qa, qb, qc, cy, fc, D, L, F, R1, R2, R3, GC, GO, W, FR, H, SC), rg_mk ⟨c1, c2, c3, hS, hD, hH, hF, b1, b2, b3', p1, p2, p3, q1, q2, q3⟩, fun K hK => xe_1 hop (fun K' hk => xr_1  (hk _ _ _ _ _ _ _ _ _ _ _ _ _ _ _ _ _ _ _ _ _ _ _ _ _ hK)), fun q hq => (by rw [hop]; exact ys_1 hq)⟩
theorem st_2 (I : rg_Inv sl wl dl ri si so pa pb pc qa qb qc fc D L R1 R2 GC H FR) (hl : ¬ L si.toNatClampNeg ≤ so) (hop : ((w).toUInt32 >>> ((16 : Int32).toUInt32 &&& Int32.toUInt32 31)).toInt32 &&& 255 = 2) : rg_Ex sl wl dl st fa ri si so ac pa pb pc qa qb qc fc cx cy w D L F R1 R2 R3 GC GO W FR H SC := by
  obtain ⟨c1, c2, c3, hS, hD, hH, hF, b1, b2, b3, p1, p2, p3, q1, q2, q3⟩ := I
  have b3' := rg_so hS b3 hl
  exact Or.inr ⟨(sl, wl, dl, st, fa, ri, si, so + 1, ac + (w &&& 65535), rg_P pa pb pc, rg_P qa qb qc, fc, cx, L, F, R1, R2, R3, GC, GO, W, H, SC, FR), (sl, wl, dl, st, fa, ri, si, so + 1, ac + (w &&& 65535), pa, pb, pc, qa, qb, qc, cy, fc, D, L, F, R1, R2, R3, GC, GO, W, FR, H, SC), rg_mk ⟨c1, c2, c3, hS, hD, hH, hF, b1, b2, b3', p1, p2, p3, q1, q2, q3⟩, fun K hK => xe_2 hop (fun K' hk => xr_2  (hk _ _ _ _ _ _ _ _ _ _ _ _ _ _ _ _ _ _ _ _ _ _ _ _ _ hK)), fun q hq => (by rw [hop]; exact ys_2 hq)⟩
theorem st_3 (I : rg_Inv sl wl dl ri si so pa pb pc qa qb qc fc D L R1 R2 GC H FR) (hl : ¬ L si.toNatClampNeg ≤ so) (hop : ((w).toUInt32 >>> ((16 : Int32).toUInt32 &&& Int32.toUInt32 31)).toInt32 &&& 255 = 3) : rg_Ex sl wl dl st fa ri si so ac pa pb pc qa qb qc fc cx cy w D L F R1 R2 R3 GC GO W FR H SC := by
  obtain ⟨c1, c2, c3, hS, hD, hH, hF, b1, b2, b3, p1, p2, p3, q1, q2, q3⟩ := I
  have b3' := rg_so hS b3 hl
  exact Or.inr ⟨(sl, wl, dl, st, fa, ri, si, so + 1, ac, rg_P (((w).toUInt32 >>> ((8 : Int32).toUInt32 &&& Int32.toUInt32 31)).toInt32 &&& 255) (w &&& 255) ri, rg_P qa qb qc, fc, cx, L, F, R1, R2, R3, GC, GO, W, H, SC, FR), (sl, wl, dl, st, fa, ri, si, so + 1, ac, ((w).toUInt32 >>> ((8 : Int32).toUInt32 &&& Int32.toUInt32 31)).toInt32 &&& 255, w &&& 255, ri, qa, qb, qc, cy, fc, D, L, F, R1, R2, R3, GC, GO, W, FR, H, SC), rg_mk ⟨c1, c2, c3, hS, hD, hH, hF, b1, b2, b3', rg_B255 _, rg_B255 _, b1, q1, q2, q3⟩, fun K hK => xe_3 hop (fun K' hk => xr_3  (hk _ _ _ _ _ _ _ _ _ _ _ _ _ _ _ _ _ _ _ _ _ _ _ _ _ hK)), fun q hq => (by rw [hop]; exact ys_3 hq)⟩
theorem st_4 (I : rg_Inv sl wl dl ri si so pa pb pc qa qb qc fc D L R1 R2 GC H FR) (hl : ¬ L si.toNatClampNeg ≤ so) (hop : ((w).toUInt32 >>> ((16 : Int32).toUInt32 &&& Int32.toUInt32 31)).toInt32 &&& 255 = 4) : rg_Ex sl wl dl st fa ri si so ac pa pb pc qa qb qc fc cx cy w D L F R1 R2 R3 GC GO W FR H SC := by
  obtain ⟨c1, c2, c3, hS, hD, hH, hF, b1, b2, b3, p1, p2, p3, q1, q2, q3⟩ := I
  have b3' := rg_so hS b3 hl
  exact Or.inr ⟨(sl, wl, dl, st, fa, ri, si, so + 1, ac, rg_P pa ((pb + (w &&& 255)) &&& 255) pc, rg_P qa qb qc, fc, cx, L, F, R1, R2, R3, GC, GO, W, H, SC, FR), (sl, wl, dl, st, fa, ri, si, so + 1, ac, pa, (pb + (w &&& 255)) &&& 255, pc, qa, qb, qc, cy, fc, D, L, F, R1, R2, R3, GC, GO, W, FR, H, SC), rg_mk ⟨c1, c2, c3, hS, hD, hH, hF, b1, b2, b3', p1, rg_B255 _, p3, q1, q2, q3⟩, fun K hK => xe_4 hop (fun K' hk => xr_4 p1 p2 p3 (hk _ _ _ _ _ _ _ _ _ _ _ _ _ _ _ _ _ _ _ _ _ _ _ _ _ hK)), fun q hq => (by rw [hop]; exact ys_4 hq)⟩
theorem st_5 (I : rg_Inv sl wl dl ri si so pa pb pc qa qb qc fc D L R1 R2 GC H FR) (hl : ¬ L si.toNatClampNeg ≤ so) (hop : ((w).toUInt32 >>> ((16 : Int32).toUInt32 &&& Int32.toUInt32 31)).toInt32 &&& 255 = 5) : rg_Ex sl wl dl st fa ri si so ac pa pb pc qa qb qc fc cx cy w D L F R1 R2 R3 GC GO W FR H SC := by
  obtain ⟨c1, c2, c3, hS, hD, hH, hF, b1, b2, b3, p1, p2, p3, q1, q2, q3⟩ := I
  have b3' := rg_so hS b3 hl
  exact Or.inr ⟨(sl, wl, dl, st, fa, ri, si, so + 1, ac, rg_P qa qb qc, rg_P pa pb pc, fc, cx, L, F, R1, R2, R3, GC, GO, W, H, SC, FR), (sl, wl, dl, st, fa, ri, si, so + 1, ac, qa, qb, qc, pa, pb, pc, cy, fc, D, L, F, R1, R2, R3, GC, GO, W, FR, H, SC), rg_mk ⟨c1, c2, c3, hS, hD, hH, hF, b1, b2, b3', q1, q2, q3, p1, p2, p3⟩, fun K hK => xe_5 hop (fun K' hk => xr_5  (hk _ _ _ _ _ _ _ _ _ _ _ _ _ _ _ _ _ _ _ _ _ _ _ _ _ hK)), fun q hq => (by rw [hop]; exact ys_5 hq)⟩
theorem st_14 (I : rg_Inv sl wl dl ri si so pa pb pc qa qb qc fc D L R1 R2 GC H FR) (hl : ¬ L si.toNatClampNeg ≤ so) (hop : ((w).toUInt32 >>> ((16 : Int32).toUInt32 &&& Int32.toUInt32 31)).toInt32 &&& 255 = 14) : rg_Ex sl wl dl st fa ri si so ac pa pb pc qa qb qc fc cx cy w D L F R1 R2 R3 GC GO W FR H SC := by
  obtain ⟨c1, c2, c3, hS, hD, hH, hF, b1, b2, b3, p1, p2, p3, q1, q2, q3⟩ := I
  have b3' := rg_so hS b3 hl
  exact Or.inr ⟨(sl, wl, dl, st, fa, ri, si, so + 1, ri, rg_P pa pb pc, rg_P qa qb qc, fc, cx, L, F, R1, R2, R3, GC, GO, W, H, SC, FR), (sl, wl, dl, st, fa, ri, si, so + 1, ri, pa, pb, pc, qa, qb, qc, cy, fc, D, L, F, R1, R2, R3, GC, GO, W, FR, H, SC), rg_mk ⟨c1, c2, c3, hS, hD, hH, hF, b1, b2, b3', p1, p2, p3, q1, q2, q3⟩, fun K hK => xe_14 hop (fun K' hk => xr_14  (hk _ _ _ _ _ _ _ _ _ _ _ _ _ _ _ _ _ _ _ _ _ _ _ _ _ hK)), fun q hq => (by rw [hop]; exact ys_14 hq)⟩
theorem st_15 (I : rg_Inv sl wl dl ri si so pa pb pc qa qb qc fc D L R1 R2 GC H FR) (hl : ¬ L si.toNatClampNeg ≤ so) (hop : ((w).toUInt32 >>> ((16 : Int32).toUInt32 &&& Int32.toUInt32 31)).toInt32 &&& 255 = 15) : rg_Ex sl wl dl st fa ri si so ac pa pb pc qa qb qc fc cx cy w D L F R1 R2 R3 GC GO W FR H SC := by
  obtain ⟨c1, c2, c3, hS, hD, hH, hF, b1, b2, b3, p1, p2, p3, q1, q2, q3⟩ := I
  have b3' := rg_so hS b3 hl
  exact Or.inr ⟨(sl, wl, dl, st, fa, ri, si, so + 1, pc, rg_P pa pb pc, rg_P qa qb qc, fc, cx, L, F, R1, R2, R3, GC, GO, W, H, SC, FR), (sl, wl, dl, st, fa, ri, si, so + 1, pc, pa, pb, pc, qa, qb, qc, cy, fc, D, L, F, R1, R2, R3, GC, GO, W, FR, H, SC), rg_mk ⟨c1, c2, c3, hS, hD, hH, hF, b1, b2, b3', p1, p2, p3, q1, q2, q3⟩, fun K hK => xe_15 hop (fun K' hk => xr_15 p1 p2 p3 (hk _ _ _ _ _ _ _ _ _ _ _ _ _ _ _ _ _ _ _ _ _ _ _ _ _ hK)), fun q hq => (by rw [hop]; exact ys_15 hq)⟩
theorem st_10 (I : rg_Inv sl wl dl ri si so pa pb pc qa qb qc fc D L R1 R2 GC H FR) (hl : ¬ L si.toNatClampNeg ≤ so) (hop : ((w).toUInt32 >>> ((16 : Int32).toUInt32 &&& Int32.toUInt32 31)).toInt32 &&& 255 = 10) : rg_Ex sl wl dl st fa ri si so ac pa pb pc qa qb qc fc cx cy w D L F R1 R2 R3 GC GO W FR H SC := by
  obtain ⟨c1, c2, c3, hS, hD, hH, hF, b1, b2, b3, p1, p2, p3, q1, q2, q3⟩ := I
  have b3' := rg_so hS b3 hl
  exact Or.inr ⟨(sl, wl, dl, st, fa, ri, si, w &&& 255, ac, rg_P pa pb pc, rg_P qa qb qc, fc, cx, L, F, R1, R2, R3, GC, GO, W, H, SC, FR), (sl, wl, dl, st, fa, ri, si, w &&& 255, ac, pa, pb, pc, qa, qb, qc, cy, fc, D, L, F, R1, R2, R3, GC, GO, W, FR, H, SC), rg_mk ⟨c1, c2, c3, hS, hD, hH, hF, b1, b2, rg_B255 _, p1, p2, p3, q1, q2, q3⟩, fun K hK => xe_10 hop hK, fun q hq => (by rw [hop]; exact ys_10 hq)⟩
theorem st_11 (I : rg_Inv sl wl dl ri si so pa pb pc qa qb qc fc D L R1 R2 GC H FR) (hl : ¬ L si.toNatClampNeg ≤ so) (hop : ((w).toUInt32 >>> ((16 : Int32).toUInt32 &&& Int32.toUInt32 31)).toInt32 &&& 255 = 11) : rg_Ex sl wl dl st fa ri si so ac pa pb pc qa qb qc fc cx cy w D L F R1 R2 R3 GC GO W FR H SC := by
  obtain ⟨c1, c2, c3, hS, hD, hH, hF, b1, b2, b3, p1, p2, p3, q1, q2, q3⟩ := I
  have b3' := rg_so hS b3 hl
  by_cases h : ac = 0
  · exact Or.inr ⟨(sl, wl, dl, st, fa, ri, si, w &&& 255, ac, rg_P pa pb pc, rg_P qa qb qc, fc, cx, L, F, R1, R2, R3, GC, GO, W, H, SC, FR), (sl, wl, dl, st, fa, ri, si, w &&& 255, ac, pa, pb, pc, qa, qb, qc, cy, fc, D, L, F, R1, R2, R3, GC, GO, W, FR, H, SC), rg_mk ⟨c1, c2, c3, hS, hD, hH, hF, b1, b2, rg_B255 _, p1, p2, p3, q1, q2, q3⟩, fun K hK => xe_11 hop (fun _ => hK) (fun z => absurd h z), fun q hq => (by rw [hop]; exact ys_11 (fun _ => hq) (fun z => absurd h z))⟩
  · exact Or.inr ⟨(sl, wl, dl, st, fa, ri, si, so + 1, ac, rg_P pa pb pc, rg_P qa qb qc, fc, cx, L, F, R1, R2, R3, GC, GO, W, H, SC, FR), (sl, wl, dl, st, fa, ri, si, so + 1, ac, pa, pb, pc, qa, qb, qc, cy, fc, D, L, F, R1, R2, R3, GC, GO, W, FR, H, SC), rg_mk ⟨c1, c2, c3, hS, hD, hH, hF, b1, b2, b3', p1, p2, p3, q1, q2, q3⟩, fun K hK => xe_11 hop (fun z => absurd z h) (fun _ => hK), fun q hq => (by rw [hop]; exact ys_11 (fun z => absurd z h) (fun _ => hq))⟩
theorem st_6 (I : rg_Inv sl wl dl ri si so pa pb pc qa qb qc fc D L R1 R2 GC H FR) (hl : ¬ L si.toNatClampNeg ≤ so) (hop : ((w).toUInt32 >>> ((16 : Int32).toUInt32 &&& Int32.toUInt32 31)).toInt32 &&& 255 = 6) : rg_Ex sl wl dl st fa ri si so ac pa pb pc qa qb qc fc cx cy w D L F R1 R2 R3 GC GO W FR H SC := by
  obtain ⟨c1, c2, c3, hS, hD, hH, hF, b1, b2, b3, p1, p2, p3, q1, q2, q3⟩ := I
  have b3' := rg_so hS b3 hl
  by_cases hd : rg_D sl L pa
  · by_cases hb : L pa.toNatClampNeg ≤ pb
    · exact Or.inl ⟨2, by decide, fun K hK => xe_6 hop (fun K' hk => xl_load c1 hS p1 p2 p3 (fun z => absurd hd z) (fun _ _ => (hk _ _ _ _ _ _ _ _ _ _ _ _ _ _ _ _ _ _ _ _ _ _ _ _ _ hK)) (fun _ z => absurd hb z) (fun _ z => absurd hb z)), fun q hq => (by rw [hop]; exact ys_6 (ys_ld c1 hD hS p2 (fun z => absurd hd z) (fun _ _ => hq) (fun _ z => absurd hb z) (fun _ z => absurd hb z)))⟩
    · by_cases hm : rg_MR F R2 pa (rg_mx ri pc)
      · exact Or.inr ⟨(sl, wl, dl, st, fa, ri, si, so + 1, W (pa * 32 + pb).toNatClampNeg, rg_P pa pb pc, rg_P qa qb qc, fc, cx, L, F, R1, R2, R3, GC, GO, W, H, SC, FR), (sl, wl, dl, st, fa, ri, si, so + 1, W (pa * 32 + pb).toNatClampNeg, pa, pb, pc, qa, qb, qc, cy, fc, D, L, F, R1, R2, R3, GC, GO, W, FR, H, SC), rg_mk ⟨c1, c2, c3, hS, hD, hH, hF, b1, b2, b3', p1, p2, p3, q1, q2, q3⟩, fun K hK => xe_6 hop (fun K' hk => xl_load c1 hS p1 p2 p3 (fun z => absurd hd z) (fun _ z => absurd z hb) (fun _ _ z => absurd hm z) (fun _ _ _ => (hk _ _ _ _ _ _ _ _ _ _ _ _ _ _ _ _ _ _ _ _ _ _ _ _ _ hK))), fun q hq => (by rw [hop]; exact ys_6 (ys_ld c1 hD hS p2 (fun z => absurd hd z) (fun _ z => absurd z hb) (fun _ _ z => absurd hm z) (fun _ _ _ => hq)))⟩
      · exact Or.inl ⟨4, by decide, fun K hK => xe_6 hop (fun K' hk => xl_load c1 hS p1 p2 p3 (fun z => absurd hd z) (fun _ z => absurd z hb) (fun _ _ _ => (hk _ _ _ _ _ _ _ _ _ _ _ _ _ _ _ _ _ _ _ _ _ _ _ _ _ hK)) (fun _ _ z => absurd z hm)), fun q hq => (by rw [hop]; exact ys_6 (ys_ld c1 hD hS p2 (fun z => absurd hd z) (fun _ z => absurd z hb) (fun _ _ _ => hq) (fun _ _ z => absurd z hm)))⟩
  · exact Or.inl ⟨1, by decide, fun K hK => xe_6 hop (fun K' hk => xl_load c1 hS p1 p2 p3 (fun _ => (hk _ _ _ _ _ _ _ _ _ _ _ _ _ _ _ _ _ _ _ _ _ _ _ _ _ hK)) (fun z => absurd z hd) (fun z => absurd z hd) (fun z => absurd z hd)), fun q hq => (by rw [hop]; exact ys_6 (ys_ld c1 hD hS p2 (fun _ => hq) (fun z => absurd z hd) (fun z => absurd z hd) (fun z => absurd z hd)))⟩
theorem st_7 (I : rg_Inv sl wl dl ri si so pa pb pc qa qb qc fc D L R1 R2 GC H FR) (hl : ¬ L si.toNatClampNeg ≤ so) (hop : ((w).toUInt32 >>> ((16 : Int32).toUInt32 &&& Int32.toUInt32 31)).toInt32 &&& 255 = 7) : rg_Ex sl wl dl st fa ri si so ac pa pb pc qa qb qc fc cx cy w D L F R1 R2 R3 GC GO W FR H SC := by
  obtain ⟨c1, c2, c3, hS, hD, hH, hF, b1, b2, b3, p1, p2, p3, q1, q2, q3⟩ := I
  have b3' := rg_so hS b3 hl
  by_cases hd : rg_D sl L pa
  · by_cases hb : L pa.toNatClampNeg ≤ pb
    · exact Or.inl ⟨2, by decide, fun K hK => xe_7 hop (fun K' hk => xl_store c1 hS p1 p2 p3 (fun z => absurd hd z) (fun _ _ => (hk _ _ _ _ _ _ _ _ _ _ _ _ _ _ _ _ _ _ _ _ _ _ _ _ _ hK)) (fun _ z => absurd hb z) (fun _ z => absurd hb z)), fun q hq => (by rw [hop]; exact ys_7 (ys_st c1 hD hS p2 (fun z => absurd hd z) (fun _ _ => hq) (fun _ z => absurd hb z) (fun _ z => absurd hb z)))⟩
    · by_cases hm : rg_MW F R1 pa (rg_mx ri pc)
      · exact Or.inr ⟨(sl, wl, dl, st, fa, ri, si, so + 1, ac, rg_P pa pb pc, rg_P qa qb qc, fc, cx, L, F, R1, R2, R3, GC, GO, upd W (pa * 32 + pb).toNatClampNeg ac, H, SC, FR), (sl, wl, dl, st, fa, ri, si, so + 1, ac, pa, pb, pc, qa, qb, qc, cy, fc, D, L, F, R1, R2, R3, GC, GO, upd W (pa * 32 + pb).toNatClampNeg ac, FR, H, SC), rg_mk ⟨c1, c2, c3, hS, hD, hH, hF, b1, b2, b3', p1, p2, p3, q1, q2, q3⟩, fun K hK => xe_7 hop (fun K' hk => xl_store c1 hS p1 p2 p3 (fun z => absurd hd z) (fun _ z => absurd z hb) (fun _ _ z => absurd hm z) (fun _ _ _ => (hk _ _ _ _ _ _ _ _ _ _ _ _ _ _ _ _ _ _ _ _ _ _ _ _ _ hK))), fun q hq => (by rw [hop]; exact ys_7 (ys_st c1 hD hS p2 (fun z => absurd hd z) (fun _ z => absurd z hb) (fun _ _ z => absurd hm z) (fun _ _ _ => hq)))⟩
      · exact Or.inl ⟨5, by decide, fun K hK => xe_7 hop (fun K' hk => xl_store c1 hS p1 p2 p3 (fun z => absurd hd z) (fun _ z => absurd z hb) (fun _ _ _ => (hk _ _ _ _ _ _ _ _ _ _ _ _ _ _ _ _ _ _ _ _ _ _ _ _ _ hK)) (fun _ _ z => absurd z hm)), fun q hq => (by rw [hop]; exact ys_7 (ys_st c1 hD hS p2 (fun z => absurd hd z) (fun _ z => absurd z hb) (fun _ _ _ => hq) (fun _ _ z => absurd z hm)))⟩
  · exact Or.inl ⟨1, by decide, fun K hK => xe_7 hop (fun K' hk => xl_store c1 hS p1 p2 p3 (fun _ => (hk _ _ _ _ _ _ _ _ _ _ _ _ _ _ _ _ _ _ _ _ _ _ _ _ _ hK)) (fun z => absurd z hd) (fun z => absurd z hd) (fun z => absurd z hd)), fun q hq => (by rw [hop]; exact ys_7 (ys_st c1 hD hS p2 (fun _ => hq) (fun z => absurd z hd) (fun z => absurd z hd) (fun z => absurd z hd)))⟩
theorem st_8 (I : rg_Inv sl wl dl ri si so pa pb pc qa qb qc fc D L R1 R2 GC H FR) (hl : ¬ L si.toNatClampNeg ≤ so) (hop : ((w).toUInt32 >>> ((16 : Int32).toUInt32 &&& Int32.toUInt32 31)).toInt32 &&& 255 = 8) : rg_Ex sl wl dl st fa ri si so ac pa pb pc qa qb qc fc cx cy w D L F R1 R2 R3 GC GO W FR H SC := by
  obtain ⟨c1, c2, c3, hS, hD, hH, hF, b1, b2, b3, p1, p2, p3, q1, q2, q3⟩ := I
  have b3' := rg_so hS b3 hl
  by_cases h : H ri.toNatClampNeg < dl
  · have hh : rg_B 17 (H ri.toNatClampNeg + 1) := rg_Bs (rg_Bl (n := 16) c3 (by decide) (rg_Bn (hH _) (by decide)) h)
    exact Or.inr ⟨(sl, wl, dl, st, fa, ri, si, so + 1, ac, rg_P pa pb pc, rg_P qa qb qc, fc, cx, L, F, R1, R2, R3, GC, GO, W, upd H ri.toNatClampNeg (H ri.toNatClampNeg + 1), upd SC (ri * 16 + H ri.toNatClampNeg).toNatClampNeg ac, FR), (sl, wl, dl, st, fa, ri, si, so + 1, ac, pa, pb, pc, qa, qb, qc, cy, fc, D, L, F, R1, R2, R3, GC, GO, W, FR, upd H ri.toNatClampNeg (H ri.toNatClampNeg + 1), upd SC (ri * 16 + H ri.toNatClampNeg).toNatClampNeg ac), rg_mk ⟨c1, c2, c3, hS, hD, rg_au hH hh, hF, b1, b2, b3', p1, p2, p3, q1, q2, q3⟩, fun K hK => xe_8 hop (fun K' hk => xl_push b1 c3 hH (fun z => absurd h z) (fun _ => (hk _ _ _ _ _ _ _ _ _ _ _ _ _ _ _ _ _ _ _ _ _ _ _ _ _ hK))), fun q hq => (by rw [hop]; exact ys_8 b1 c3 hH (fun z => absurd h z) (fun _ => hq))⟩
  · exact Or.inl ⟨8, by decide, fun K hK => xe_8 hop (fun K' hk => xl_push b1 c3 hH (fun _ => (hk _ _ _ _ _ _ _ _ _ _ _ _ _ _ _ _ _ _ _ _ _ _ _ _ _ hK)) (fun z => absurd z h)), fun q hq => (by rw [hop]; exact ys_8 b1 c3 hH (fun _ => hq) (fun z => absurd z h))⟩
theorem st_9 (I : rg_Inv sl wl dl ri si so pa pb pc qa qb qc fc D L R1 R2 GC H FR) (hl : ¬ L si.toNatClampNeg ≤ so) (hop : ((w).toUInt32 >>> ((16 : Int32).toUInt32 &&& Int32.toUInt32 31)).toInt32 &&& 255 = 9) : rg_Ex sl wl dl st fa ri si so ac pa pb pc qa qb qc fc cx cy w D L F R1 R2 R3 GC GO W FR H SC := by
  obtain ⟨c1, c2, c3, hS, hD, hH, hF, b1, b2, b3, p1, p2, p3, q1, q2, q3⟩ := I
  have b3' := rg_so hS b3 hl
  by_cases h : rg_fl fc FR < H ri.toNatClampNeg
  · have hh : rg_B 17 (H ri.toNatClampNeg - 1) ∧ vp_in (ri * 16 + (H ri.toNatClampNeg - 1)) 128 := by
      obtain ⟨f, hf, ef⟩ := rg_flB hF
      obtain ⟨t, ht, et⟩ := hH ri.toNatClampNeg
      rw [ef, et, nI_ltI (by omega) (by omega)] at h
      obtain ⟨m, rfl⟩ : ∃ m, t = m + 1 := ⟨t - 1, by omega⟩
      rw [et, nI_pred]
      exact ⟨⟨m, by omega, rfl⟩, rg_i16 b1 ⟨m, by omega, rfl⟩⟩
    exact Or.inr ⟨(sl, wl, dl, st, fa, ri, si, so + 1, SC (ri * 16 + (H ri.toNatClampNeg - 1)).toNatClampNeg, rg_P pa pb pc, rg_P qa qb qc, fc, cx, L, F, R1, R2, R3, GC, GO, W, upd H ri.toNatClampNeg (H ri.toNatClampNeg - 1), SC, FR), (sl, wl, dl, st, fa, ri, si, so + 1, SC (ri * 16 + (H ri.toNatClampNeg - 1)).toNatClampNeg, pa, pb, pc, qa, qb, qc, cy, fc, D, L, F, R1, R2, R3, GC, GO, W, FR, upd H ri.toNatClampNeg (H ri.toNatClampNeg - 1), SC), rg_mk ⟨c1, c2, c3, hS, hD, rg_au hH hh.1, hF, b1, b2, b3', p1, p2, p3, q1, q2, q3⟩, fun K hK => xe_9 hop (fun K' hk => xl_pop b1 hH hF (fun z => absurd h z) (fun _ _ => hk _ _ _ _ _ _ _ _ _ _ _ _ _ _ _ _ _ _ _ _ _ _ _ _ _ hK)), fun q hq => (by rw [hop]; exact ys_9 hF (ys_613 b1 (fun z => absurd h z) (fun _ => ⟨hh.2, hq⟩)))⟩
  · exact Or.inl ⟨8, by decide, fun K hK => xe_9 hop (fun K' hk => xl_pop b1 hH hF (fun _ => hk _ _ _ _ _ _ _ _ _ _ _ _ _ _ _ _ _ _ _ _ _ _ _ _ _ hK) (fun z => absurd z h)), fun q hq => (by rw [hop]; exact ys_9 hF (ys_613 b1 (fun _ => hq) (fun z => absurd z h)))⟩
theorem rg_Pm {a b c : Int32} (ha : rg_B 256 a) (hb : rg_B 256 b) (hc : rg_B 8 c) : rg_Pt (rg_P a b c) := ⟨a, b, c, ha, hb, hc, rfl⟩
theorem rg_FsC {fc dl si so ri fl P Q n : Int32} {FR : Nat → Int32} (hF : rg_Fs fc FR) (c3 : rg_B 17 dl) (h : fc < dl) (b2 : rg_B 8 si) (b3 : rg_B 32 so) (b1 : rg_B 8 ri) (hfl : rg_B 17 fl) (hP : rg_Pt P) (hQ : rg_Pt Q) : rg_Fs (fc + 1) (rg_fr FR (fc * 6) (si * 256 + so + 1) ri fl P Q n) := by
  obtain ⟨f, hf, rfl, hA⟩ := hF
  have h16 : f < 16 := by
    obtain ⟨d, hd, rfl⟩ := c3
    rw [nI_ltI (by omega) (by omega)] at h
    omega
  refine ⟨f + 1, by omega, nI_1 f, ?_⟩
  have e0 : (nI f * 6 + 0).toNatClampNeg = f * 6 + 0 := rg_c6 (o := 0) h16 (by decide)
  have e1 : (nI f * 6 + 1).toNatClampNeg = f * 6 + 1 := rg_c6 (o := 1) h16 (by decide)
  have e2 : (nI f * 6 + 2).toNatClampNeg = f * 6 + 2 := rg_c6 (o := 2) h16 (by decide)
  have e3 : (nI f * 6 + 3).toNatClampNeg = f * 6 + 3 := rg_c6 (o := 3) h16 (by decide)
  have e4 : (nI f * 6 + 4).toNatClampNeg = f * 6 + 4 := rg_c6 (o := 4) h16 (by decide)
  have e5 : (nI f * 6 + 5).toNatClampNeg = f * 6 + 5 := rg_c6 (o := 5) h16 (by decide)
  unfold rg_fr
  rw [e0, e1, e2, e3, e4, e5]
  intro g hg
  by_cases eg : g = f
  · subst eg
    refine ⟨⟨si, so + 1, b2, rg_Bm (rg_Bs b3) (by decide), ?_⟩, ?_, ?_, ?_, ?_⟩
    · rw [pk_un (by omega), pk_un (by omega), pk_un (by omega), pk_un (by omega), pk_un (by omega), Nat.add_zero, pk_us]
      exact Int32.add_assoc _ _ _
    · rw [pk_un (by omega), pk_un (by omega), pk_un (by omega), pk_un (by omega), pk_us]; exact b1
    · rw [pk_un (by omega), pk_un (by omega), pk_un (by omega), pk_us]; exact hfl
    · rw [pk_un (by omega), pk_un (by omega), pk_us]; exact hP
    · rw [pk_un (by omega), pk_us]; exact hQ
  · have hlt : g < f := by omega
    have hk : ∀ m, m < f * 6 → upd (upd (upd (upd (upd (upd FR (f * 6 + 0) (si * 256 + so + 1)) (f * 6 + 1) ri) (f * 6 + 2) fl) (f * 6 + 3) P) (f * 6 + 4) Q) (f * 6 + 5) n m = FR m := by
      intro m hm
      rw [pk_un (by omega), pk_un (by omega), pk_un (by omega), pk_un (by omega), pk_un (by omega), pk_un (by omega)]
    have h6 := hA g hlt
    unfold rg_F6 at h6 ⊢
    rw [hk (g * 6) (by omega), hk (g * 6 + 1) (by omega), hk (g * 6 + 2) (by omega), hk (g * 6 + 3) (by omega), hk (g * 6 + 4) (by omega)]
    exact h6
theorem st_12 (I : rg_Inv sl wl dl ri si so pa pb pc qa qb qc fc D L R1 R2 GC H FR) (hl : ¬ L si.toNatClampNeg ≤ so) (hop : ((w).toUInt32 >>> ((16 : Int32).toUInt32 &&& Int32.toUInt32 31)).toInt32 &&& 255 = 12) : rg_Ex sl wl dl st fa ri si so ac pa pb pc qa qb qc fc cx cy w D L F R1 R2 R3 GC GO W FR H SC := by
  obtain ⟨c1, c2, c3, hS, hD, hH, hF, b1, b2, b3, p1, p2, p3, q1, q2, q3⟩ := I
  have b3' := rg_so hS b3 hl
  have b32 := rg_O32 hS _ (rg_Bn b3 (by decide)) hl
  by_cases hd : rg_D sl L (((w).toUInt32 >>> ((8 : Int32).toUInt32 &&& Int32.toUInt32 31)).toInt32 &&& 255)
  · by_cases hb : L (((w).toUInt32 >>> ((8 : Int32).toUInt32 &&& Int32.toUInt32 31)).toInt32 &&& 255).toNatClampNeg ≤ w &&& 255
    · exact Or.inl ⟨2, by decide, fun K hK => xe_12 hop (fun K' hk => xl_call c1 hS b1 hF c3 p1 p2 p3 q1 q2 q3 (fun z => absurd hd z) (fun _ _ => (hk _ _ _ _ _ _ _ _ _ _ _ _ _ _ _ _ _ _ _ _ _ _ _ _ _ hK)) (fun _ z => absurd hb z) (fun _ z => absurd hb z) (fun _ z => absurd hb z) (fun _ z => absurd hb z)), fun q hq => (by rw [hop]; exact ys_12 c1 hD hS b1 hF c3 (fun z => absurd hd z) (fun _ _ => hq) (fun _ z => absurd hb z) (fun _ z => absurd hb z) (fun _ z => absurd hb z) (fun _ z => absurd hb z))⟩
    · by_cases hm : rg_MC F R3 (((w).toUInt32 >>> ((8 : Int32).toUInt32 &&& Int32.toUInt32 31)).toInt32 &&& 255) ri
      · by_cases hg : ri ≤ R2 (((w).toUInt32 >>> ((8 : Int32).toUInt32 &&& Int32.toUInt32 31)).toInt32 &&& 255).toNatClampNeg ∨ rg_G GC GO (((w).toUInt32 >>> ((8 : Int32).toUInt32 &&& Int32.toUInt32 31)).toInt32 &&& 255) (w &&& 255)
        · by_cases hf : fc < dl
          · exact Or.inr ⟨(sl, wl, dl, st, fa, rg_en R1 R2 ri (((w).toUInt32 >>> ((8 : Int32).toUInt32 &&& Int32.toUInt32 31)).toInt32 &&& 255), ((w).toUInt32 >>> ((8 : Int32).toUInt32 &&& Int32.toUInt32 31)).toInt32 &&& 255, w &&& 255, ac, rg_P pa pb (rg_mx ri pc), rg_P qa qb (rg_mx ri qc), fc + 1, cx, L, F, R1, R2, R3, GC, GO, W, H, SC, rg_fr FR (fc * 6) (si * 256 + so + 1) ri (H (rg_en R1 R2 ri (((w).toUInt32 >>> ((8 : Int32).toUInt32 &&& Int32.toUInt32 31)).toInt32 &&& 255)).toNatClampNeg) (rg_P pa pb pc) (rg_P qa qb qc) (rg_en R1 R2 ri (((w).toUInt32 >>> ((8 : Int32).toUInt32 &&& Int32.toUInt32 31)).toInt32 &&& 255))), (sl, wl, dl, st, fa, rg_en R1 R2 ri (((w).toUInt32 >>> ((8 : Int32).toUInt32 &&& Int32.toUInt32 31)).toInt32 &&& 255), ((w).toUInt32 >>> ((8 : Int32).toUInt32 &&& Int32.toUInt32 31)).toInt32 &&& 255, w &&& 255, ac, pa, pb, rg_mx ri pc, qa, qb, rg_mx ri qc, cy, fc + 1, D, L, F, R1, R2, R3, GC, GO, W, rg_fr FR (fc * 6) (si * 256 + so + 1) ri (H (rg_en R1 R2 ri (((w).toUInt32 >>> ((8 : Int32).toUInt32 &&& Int32.toUInt32 31)).toInt32 &&& 255)).toNatClampNeg) (rg_P pa pb pc) (rg_P qa qb qc) (rg_en R1 R2 ri (((w).toUInt32 >>> ((8 : Int32).toUInt32 &&& Int32.toUInt32 31)).toInt32 &&& 255)), H, SC), rg_mk ⟨c1, c2, c3, hS, hD, hH, rg_FsC hF c3 hf b2 b32 b1 (hH _) (rg_Pm p1 p2 p3) (rg_Pm q1 q2 q3), rg_en8 hS b1, rg_D8' c1 hd, rg_B255 _, p1, p2, rg_mx8 b1 p3, q1, q2, rg_mx8 b1 q3⟩, fun K hK => xe_12 hop (fun K' hk => xl_call c1 hS b1 hF c3 p1 p2 p3 q1 q2 q3 (fun z => absurd hd z) (fun _ z => absurd z hb) (fun _ _ z => absurd hm z) (fun _ _ _ y z => absurd (hg.elim (fun t => absurd t y) id) z) (fun _ _ _ _ z => absurd hf z) (fun _ _ _ _ _ => (hk _ _ _ _ _ _ _ _ _ _ _ _ _ _ _ _ _ _ _ _ _ _ _ _ _ hK))), fun q hq => (by rw [hop]; exact ys_12 c1 hD hS b1 hF c3 (fun z => absurd hd z) (fun _ z => absurd z hb) (fun _ _ z => absurd hm z) (fun _ _ _ y z => absurd (hg.elim (fun t => absurd t y) id) z) (fun _ _ _ _ z => absurd hf z) (fun _ _ _ _ _ => hq))⟩
          · exact Or.inl ⟨9, by decide, fun K hK => xe_12 hop (fun K' hk => xl_call c1 hS b1 hF c3 p1 p2 p3 q1 q2 q3 (fun z => absurd hd z) (fun _ z => absurd z hb) (fun _ _ z => absurd hm z) (fun _ _ _ y z => absurd (hg.elim (fun t => absurd t y) id) z) (fun _ _ _ _ _ => (hk _ _ _ _ _ _ _ _ _ _ _ _ _ _ _ _ _ _ _ _ _ _ _ _ _ hK)) (fun _ _ _ _ z => absurd z hf)), fun q hq => (by rw [hop]; exact ys_12 c1 hD hS b1 hF c3 (fun z => absurd hd z) (fun _ z => absurd z hb) (fun _ _ z => absurd hm z) (fun _ _ _ y z => absurd (hg.elim (fun t => absurd t y) id) z) (fun _ _ _ _ _ => hq) (fun _ _ _ _ z => absurd z hf))⟩
        · have hr : ¬ ri ≤ R2 (((w).toUInt32 >>> ((8 : Int32).toUInt32 &&& Int32.toUInt32 31)).toInt32 &&& 255).toNatClampNeg := fun z => hg (Or.inl z)
          have hn : ¬ rg_G GC GO (((w).toUInt32 >>> ((8 : Int32).toUInt32 &&& Int32.toUInt32 31)).toInt32 &&& 255) (w &&& 255) := fun z => hg (Or.inr z)
          exact Or.inl ⟨7, by decide, fun K hK => xe_12 hop (fun K' hk => xl_call c1 hS b1 hF c3 p1 p2 p3 q1 q2 q3 (fun z => absurd hd z) (fun _ z => absurd z hb) (fun _ _ z => absurd hm z) (fun _ _ _ _ _ => (hk _ _ _ _ _ _ _ _ _ _ _ _ _ _ _ _ _ _ _ _ _ _ _ _ _ hK)) (fun _ _ _ z => absurd z hg) (fun _ _ _ z => absurd z hg)), fun q hq => (by rw [hop]; exact ys_12 c1 hD hS b1 hF c3 (fun z => absurd hd z) (fun _ z => absurd z hb) (fun _ _ z => absurd hm z) (fun _ _ _ _ _ => hq) (fun _ _ _ z => absurd z hg) (fun _ _ _ z => absurd z hg))⟩
      · exact Or.inl ⟨6, by decide, fun K hK => xe_12 hop (fun K' hk => xl_call c1 hS b1 hF c3 p1 p2 p3 q1 q2 q3 (fun z => absurd hd z) (fun _ z => absurd z hb) (fun _ _ _ => (hk _ _ _ _ _ _ _ _ _ _ _ _ _ _ _ _ _ _ _ _ _ _ _ _ _ hK)) (fun _ _ z => absurd z hm) (fun _ _ z => absurd z hm) (fun _ _ z => absurd z hm)), fun q hq => (by rw [hop]; exact ys_12 c1 hD hS b1 hF c3 (fun z => absurd hd z) (fun _ z => absurd z hb) (fun _ _ _ => hq) (fun _ _ z => absurd z hm) (fun _ _ z => absurd z hm) (fun _ _ z => absurd z hm))⟩
  · exact Or.inl ⟨1, by decide, fun K hK => xe_12 hop (fun K' hk => xl_call c1 hS b1 hF c3 p1 p2 p3 q1 q2 q3 (fun _ => (hk _ _ _ _ _ _ _ _ _ _ _ _ _ _ _ _ _ _ _ _ _ _ _ _ _ hK)) (fun z => absurd z hd) (fun z => absurd z hd) (fun z => absurd z hd) (fun z => absurd z hd) (fun z => absurd z hd)), fun q hq => (by rw [hop]; exact ys_12 c1 hD hS b1 hF c3 (fun _ => hq) (fun z => absurd z hd) (fun z => absurd z hd) (fun z => absurd z hd) (fun z => absurd z hd) (fun z => absurd z hd))⟩
theorem rg_FsR {fc : Int32} {FR : Nat → Int32} (hF : rg_Fs fc FR) (h : ¬ fc = 0) : rg_Fs (fc - 1) FR := by
  obtain ⟨f, hf, e1, e2, _, _, hg⟩ := rg_fB hF h
  exact ⟨f, by omega, e2, hg⟩
theorem st_13 (I : rg_Inv sl wl dl ri si so pa pb pc qa qb qc fc D L R1 R2 GC H FR) (hl : ¬ L si.toNatClampNeg ≤ so) (hop : ((w).toUInt32 >>> ((16 : Int32).toUInt32 &&& Int32.toUInt32 31)).toInt32 &&& 255 = 13) : rg_Ex sl wl dl st fa ri si so ac pa pb pc qa qb qc fc cx cy w D L F R1 R2 R3 GC GO W FR H SC := by
  obtain ⟨c1, c2, c3, hS, hD, hH, hF, b1, b2, b3, p1, p2, p3, q1, q2, q3⟩ := I
  have b3' := rg_so hS b3 hl
  by_cases h : fc = 0
  · exact Or.inl ⟨9, by decide, fun K hK => xe_13 hop (fun K' hk => xl_ret b1 hF (fun _ => hk _ _ _ _ _ _ _ _ _ _ _ _ _ _ _ _ _ _ _ _ _ _ _ _ _ hK) (fun z => absurd h z)), fun q hq => (by rw [hop]; exact ys_13 b1 hF (fun _ => hq) (fun z => absurd h z))⟩
  · obtain ⟨f, hf, e1, e2, h6, hc, hg⟩ := rg_fB hF h
    obtain ⟨⟨a, b, ha, hb, hr⟩, g1, g2, ⟨pa1, pb1, pc1, u1, u2, u3, eP⟩, ⟨qa1, qb1, qc1, w1, w2, w3, eQ⟩⟩ := h6
    have k0 : FR ((fc - 1) * 6 + 0).toNatClampNeg = a * 256 + b := (congrArg FR (hc 0 (by decide))).trans hr
    have k1 : rg_B 8 (FR ((fc - 1) * 6 + 1).toNatClampNeg) := by
      have e := hc 1 (by decide)
      rw [show (nI 1) = 1 from rfl] at e
      rw [e]; exact g1
    have k2 : rg_B 17 (FR ((fc - 1) * 6 + 2).toNatClampNeg) := by
      have e := hc 2 (by decide)
      rw [show (nI 2) = 2 from rfl] at e
      rw [e]; exact g2
    have k3 : FR ((fc - 1) * 6 + 3).toNatClampNeg = rg_P pa1 pb1 pc1 := (congrArg FR (hc 3 (by decide))).trans eP
    have k4 : FR ((fc - 1) * 6 + 4).toNatClampNeg = rg_P qa1 qb1 qc1 := (congrArg FR (hc 4 (by decide))).trans eQ
    refine Or.inr ⟨(sl, wl, dl, st, fa, FR ((fc - 1) * 6 + 1).toNatClampNeg, a, b, ac, rg_P pa1 pb1 pc1, rg_P qa1 qb1 qc1, fc - 1, cx, L, F, R1, R2, R3, GC, GO, W, upd H ri.toNatClampNeg (FR ((fc - 1) * 6 + 2).toNatClampNeg), SC, FR), (sl, wl, dl, st, fa, FR ((fc - 1) * 6 + 1).toNatClampNeg, a, b, ac, pa1, pb1, pc1, qa1, qb1, qc1, cy, fc - 1, D, L, F, R1, R2, R3, GC, GO, W, FR, upd H ri.toNatClampNeg (FR ((fc - 1) * 6 + 2).toNatClampNeg), SC), rg_mk ⟨c1, c2, c3, hS, hD, rg_au hH k2, rg_FsR hF h, k1, ha, hb, u1, u2, u3, w1, w2, w3⟩, fun K hK => xe_13 hop (fun K' hk => xl_ret b1 hF (fun z => absurd z h) (fun _ => ?_)), fun q hq => ?_⟩
    · rw [k0, rg_rR ha hb, rg_rD ha hb, k3, k4]
      exact hk _ _ _ _ _ _ _ _ _ _ _ _ _ _ _ _ _ _ _ _ _ _ _ _ _ hK
    · rw [hop]
      refine ys_13 b1 hF (fun z => absurd z h) (fun _ => ?_)
      rw [k0, rg_rR ha hb, rg_rD ha hb, k3, k4, rg_US u1 u2 u3, rg_UO u1 u2 u3, rg_UR u1 u2 u3, rg_US w1 w2 w3, rg_UO w1 w2 w3, rg_UR w1 w2 w3]
      exact hq
theorem st_d (I : rg_Inv sl wl dl ri si so pa pb pc qa qb qc fc D L R1 R2 GC H FR) (hl : ¬ L si.toNatClampNeg ≤ so) (n : Nat) (hn : 15 < n) (hn2 : n < 256) (hop : ((w).toUInt32 >>> ((16 : Int32).toUInt32 &&& Int32.toUInt32 31)).toInt32 &&& 255 = nI n) : rg_Ex sl wl dl st fa ri si so ac pa pb pc qa qb qc fc cx cy w D L F R1 R2 R3 GC GO W FR H SC := by
  obtain ⟨c1, c2, c3, hS, hD, hH, hF, b1, b2, b3, p1, p2, p3, q1, q2, q3⟩ := I
  have h15 : (15 : Int32) < nI n := nI_lt (a := 15) hn (by omega)
  have h13 : (13 : Int32) < nI n := nI_lt (a := 13) (by omega) (by omega)
  have h1 : ¬ nI n < (1 : Int32) := nI_nlt (b := 1) (by omega) (by omega)
  have h0 : ¬ nI n < (0 : Int32) := nI_pos (by omega)
  refine Or.inl ⟨10, by decide, fun K hK => xe_d (by rw [hop]; exact h0) (by rw [hop]; exact h1) (by rw [hop]; exact h13) (by rw [hop]; exact h15) hK, fun q hq => ?_⟩
  rw [hop]
  refine ys_d (fun i hi => ?_) hq
  rw [nI_eq (by omega) (by omega)]
  omega
theorem st_all (I : rg_Inv sl wl dl ri si so pa pb pc qa qb qc fc D L R1 R2 GC H FR) (hl : ¬ L si.toNatClampNeg ≤ so) : rg_Ex sl wl dl st fa ri si so ac pa pb pc qa qb qc fc cx cy w D L F R1 R2 R3 GC GO W FR H SC := by
  obtain ⟨n, hn, hop⟩ := rg_B255 ((w.toUInt32 >>> ((16 : Int32).toUInt32 &&& Int32.toUInt32 31)).toInt32)
  have hc : n = 0 ∨ n = 1 ∨ n = 2 ∨ n = 3 ∨ n = 4 ∨ n = 5 ∨ n = 6 ∨ n = 7 ∨ n = 8 ∨ n = 9 ∨ n = 10 ∨ n = 11 ∨ n = 12 ∨ n = 13 ∨ n = 14 ∨ n = 15 ∨ 15 < n := by omega
  rcases hc with rfl | rfl | rfl | rfl | rfl | rfl | rfl | rfl | rfl | rfl | rfl | rfl | rfl | rfl | rfl | rfl | hn
  · exact st_0 I hl hop
  · exact st_1 I hl hop
  · exact st_2 I hl hop
  · exact st_3 I hl hop
  · exact st_4 I hl hop
  · exact st_5 I hl hop
  · exact st_6 I hl hop
  · exact st_7 I hl hop
  · exact st_8 I hl hop
  · exact st_9 I hl hop
  · exact st_10 I hl hop
  · exact st_11 I hl hop
  · exact st_12 I hl hop
  · exact st_13 I hl hop
  · exact st_14 I hl hop
  · exact st_15 I hl hop
  · exact st_d I hl n hn (by omega) hop
end
end
section
section
variable {sl wl dl st fa ri si so ac pa pb pc qa qb qc fc cx cy : Int32} {D L F R1 R2 R3 GC GO W FR H SC : Nat → Int32}
theorem st_take (I : rg_Inv sl wl dl ri si so pa pb pc qa qb qc fc D L R1 R2 GC H FR) : (∃ (u : SX) (v : SY), rg_R cx cy u v ∧ (∀ q : Int32 → SX → Prop, q 0 u → wpX_takeStep q (sl, wl, dl, st, fa, ri, si, so, ac, rg_P pa pb pc, rg_P qa qb qc, fc, cx, L, F, R1, R2, R3, GC, GO, W, H, SC, FR)) ∧ (∀ q : Int32 → SY → Prop, q 0 v → wpY_step q (sl, wl, dl, st, fa, ri, si, so, ac, pa, pb, pc, qa, qb, qc, cy, fc, D, L, F, R1, R2, R3, GC, GO, W, FR, H, SC))) ∨
  (∃ (u : SX) (v : SY), rg_R (cx + 1) cy u v ∧ (∀ q : Int32 → SX → Prop, q 1 u → wpX_takeStep q (sl, wl, dl, st, fa, ri, si, so, ac, rg_P pa pb pc, rg_P qa qb qc, fc, cx, L, F, R1, R2, R3, GC, GO, W, H, SC, FR)) ∧ (∀ q : Int32 → SY → Prop, q 1 v → wpY_step q (sl, wl, dl, st, fa, ri, si, so, ac, pa, pb, pc, qa, qb, qc, cy, fc, D, L, F, R1, R2, R3, GC, GO, W, FR, H, SC))) := by
  have I0 := I
  obtain ⟨c1, c2, c3, hS, hD, hH, hF, b1, b2, b3, p1, p2, p3, q1, q2, q3⟩ := I
  by_cases hd : rg_D sl L si
  · by_cases hl : L si.toNatClampNeg ≤ so
    · exact Or.inl ⟨(sl, wl, dl, 3, 2, ri, si, so, ac, rg_P pa pb pc, rg_P qa qb qc, fc, cx, L, F, R1, R2, R3, GC, GO, W, H, SC, FR), (sl, wl, dl, 3, 2, ri, si, so, ac, pa, pb, pc, qa, qb, qc, cy, fc, D, L, F, R1, R2, R3, GC, GO, W, FR, H, SC), rg_mk I0, fun q hq => xs_pre c1 hS b3 (fun z => absurd hd z) (fun _ _ => hq) (fun _ z => absurd hl z) (fun _ z => absurd hl z), fun q hq => ys_pre c1 hD hS b3 (fun z => absurd hd z) (fun _ _ => hq) (fun _ z => absurd hl z) (fun _ z => absurd hl z)⟩
    · by_cases hx : rg_MX F R1 R2 si ri
      · rcases st_all (cx := cx) (cy := cy) (st := st) (fa := fa) (ac := ac) (F := F) (R3 := R3) (GO := GO) (W := W) (SC := SC) (w := W (si * 32 + so).toNatClampNeg) I0 hl with ⟨c, hc, hX, hY⟩ | ⟨u, v, hR, hX, hY⟩
        · exact Or.inl ⟨(sl, wl, dl, 3, c, ri, si, so, ac, rg_P pa pb pc, rg_P qa qb qc, fc, cx, L, F, R1, R2, R3, GC, GO, W, H, SC, FR), (sl, wl, dl, 3, c, ri, si, so, ac, pa, pb, pc, qa, qb, qc, cy, fc, D, L, F, R1, R2, R3, GC, GO, W, FR, H, SC), rg_mk I0, fun q hq => xs_pre c1 hS b3 (fun z => absurd hd z) (fun _ z => absurd z hl) (fun _ _ z => absurd hx z) (fun _ _ _ => fun K' hk => hX K' (hk _ _ _ _ _ _ _ _ _ _ _ _ _ _ _ _ _ _ _ _ _ _ _ _ _ (br_f hc hq))), fun q hq => ys_pre c1 hD hS b3 (fun z => absurd hd z) (fun _ z => absurd z hl) (fun _ _ z => absurd hx z) (fun _ _ _ => hY q hq)⟩
        · obtain ⟨sl1, wl1, dl1, st1, fa1, ri1, si1, so1, ac1, pa1, pb1, pc1, qa1, qb1, qc1, fc1, D1, L1, F1, R11, R21, R31, GC1, GO1, W1, FR1, H1, SC1, rfl, rfl, I1⟩ := hR
          exact Or.inr ⟨_, _, rg_mk I1, fun q hq => xs_pre c1 hS b3 (fun z => absurd hd z) (fun _ z => absurd z hl) (fun _ _ z => absurd hx z) (fun _ _ _ => fun K' hk => hX K' (hk _ _ _ _ _ _ _ _ _ _ _ _ _ _ _ _ _ _ _ _ _ _ _ _ _ (br_t rfl (nm_e hq)))), fun q hq => ys_pre c1 hD hS b3 (fun z => absurd hd z) (fun _ z => absurd z hl) (fun _ _ z => absurd hx z) (fun _ _ _ => hY q hq)⟩
      · exact Or.inl ⟨(sl, wl, dl, 3, 3, ri, si, so, ac, rg_P pa pb pc, rg_P qa qb qc, fc, cx, L, F, R1, R2, R3, GC, GO, W, H, SC, FR), (sl, wl, dl, 3, 3, ri, si, so, ac, pa, pb, pc, qa, qb, qc, cy, fc, D, L, F, R1, R2, R3, GC, GO, W, FR, H, SC), rg_mk I0, fun q hq => xs_pre c1 hS b3 (fun z => absurd hd z) (fun _ z => absurd z hl) (fun _ _ _ => hq) (fun _ _ z => absurd z hx), fun q hq => ys_pre c1 hD hS b3 (fun z => absurd hd z) (fun _ z => absurd z hl) (fun _ _ _ => hq) (fun _ _ z => absurd z hx)⟩
  · exact Or.inl ⟨(sl, wl, dl, 3, 1, ri, si, so, ac, rg_P pa pb pc, rg_P qa qb qc, fc, cx, L, F, R1, R2, R3, GC, GO, W, H, SC, FR), (sl, wl, dl, 3, 1, ri, si, so, ac, pa, pb, pc, qa, qb, qc, cy, fc, D, L, F, R1, R2, R3, GC, GO, W, FR, H, SC), rg_mk I0, fun q hq => xs_pre c1 hS b3 (fun _ => hq) (fun z => absurd z hd) (fun z => absurd z hd) (fun z => absurd z hd), fun q hq => ys_pre c1 hD hS b3 (fun _ => hq) (fun z => absurd z hd) (fun z => absurd z hd) (fun z => absurd z hd)⟩
end
/-- the loops of run over whole states -/
def rg_lx (q : Int32 → SX → Prop) (m : Int32) (n : Nat) (c t : Int32) (u : SX) : Prop := match u with
  | (sl, wl, dl, st, fa, ri, si, so, ac, P, Q, fc, cx, L, F, R1, R2, R3, GC, GO, W, H, SC, FR) => wX_run_20 q m n c t sl wl dl st fa ri si so ac P Q fc cx L F R1 R2 R3 GC GO W H SC FR
def rg_ly (q : Int32 → SY → Prop) (m : Int32) (n : Nat) (c t : Int32) (v : SY) : Prop := match v with
  | (sl, wl, dl, st, fa, ri, si, so, ac, pa, pb, pc, qa, qb, qc, cy, fc, D, L, F, R1, R2, R3, GC, GO, W, FR, H, SC) => wY_run_35 q m n c t sl wl dl st fa ri si so ac pa pb pc qa qb qc cy fc D L F R1 R2 R3 GC GO W FR H SC
theorem st_run (m : Nat) (hm : m ≤ 256) : ∀ d i : Nat, i + d = m → ∀ (cx c : Int32) (u : SX) (v : SY), rg_R cx cx u v → ∃ (r cx' : Int32) (u' : SX) (v' : SY), rg_R cx' cx' u' v' ∧ (∀ (q : Int32 → SX → Prop) (n : Nat), d < n → q r u' → rg_lx q (nI m) n c (nI i) u) ∧ (∀ (q : Int32 → SY → Prop) (n : Nat), d < n → q r v' → rg_ly q (nI m) n c (nI i) v) := by
  intro d
  induction d with
  | zero =>
    intro i hi cx c u v hR
    obtain ⟨sl, wl, dl, st, fa, ri, si, so, ac, pa, pb, pc, qa, qb, qc, fc, D, L, F, R1, R2, R3, GC, GO, W, FR, H, SC, rfl, rfl, I⟩ := hR
    refine ⟨c, cx, (sl, wl, dl, st, fa, ri, si, so, ac, rg_P pa pb pc, rg_P qa qb qc, fc, cx, L, F, R1, R2, R3, GC, GO, W, H, SC, FR), (sl, wl, dl, st, fa, ri, si, so, ac, pa, pb, pc, qa, qb, qc, cx, fc, D, L, F, R1, R2, R3, GC, GO, W, FR, H, SC), rg_mk I, fun q n hn hq => ?_, fun q n hn hq => ?_⟩
    · obtain ⟨n, rfl⟩ := Nat.exists_eq_succ_of_ne_zero (Nat.pos_iff_ne_zero.mp hn)
      exact br_t (nI_le (by omega) (by omega)) hq
    · obtain ⟨n, rfl⟩ := Nat.exists_eq_succ_of_ne_zero (Nat.pos_iff_ne_zero.mp hn)
      exact br_t (nI_le (by omega) (by omega)) hq
  | succ d ih =>
    intro i hi cx c u v hR
    obtain ⟨sl, wl, dl, st, fa, ri, si, so, ac, pa, pb, pc, qa, qb, qc, fc, D, L, F, R1, R2, R3, GC, GO, W, FR, H, SC, rfl, rfl, I⟩ := hR
    have hlt : ¬ nI m ≤ nI i := nI_ge (by omega) (by omega)
    by_cases hs : st = 1
    · rcases st_take (cx := cx) (cy := cx) (st := st) (fa := fa) (ac := ac) (F := F) (R3 := R3) (GO := GO) (W := W) (SC := SC) I with ⟨u1, v1, hR1, hX, hY⟩ | ⟨u1, v1, hR1, hX, hY⟩
      · obtain ⟨r, cx', u', v', hR', HX, HY⟩ := ih (i + 1) (by omega) cx c u1 v1 hR1
        obtain ⟨sl1, wl1, dl1, st1, fa1, ri1, si1, so1, ac1, pa1, pb1, pc1, qa1, qb1, qc1, fc1, D1, L1, F1, R11, R21, R31, GC1, GO1, W1, FR1, H1, SC1, rfl, rfl, I1⟩ := hR1
        refine ⟨r, cx', u', v', hR', fun q n hn hq => ?_, fun q n hn hq => ?_⟩
        · obtain ⟨n, rfl⟩ := Nat.exists_eq_succ_of_ne_zero (n := n) (by omega)
          exact br_f hlt (br_t hs (hX _ (br_t rfl (nm_r (nI_1 i) (HX q n (by omega) hq)))))
        · obtain ⟨n, rfl⟩ := Nat.exists_eq_succ_of_ne_zero (n := n) (by omega)
          exact br_f hlt (br_t hs (hY _ (br_t rfl (nm_r (nI_1 i) (HY q n (by omega) hq)))))
      · obtain ⟨sl1, wl1, dl1, st1, fa1, ri1, si1, so1, ac1, pa1, pb1, pc1, qa1, qb1, qc1, fc1, D1, L1, F1, R11, R21, R31, GC1, GO1, W1, FR1, H1, SC1, rfl, rfl, I1⟩ := hR1
        obtain ⟨r, cx', u', v', hR', HX, HY⟩ := ih (i + 1) (by omega) (cx + 1) (c + 1) _ _ (rg_mk (cx := cx + 1) (cy := cx + 1) (st := st1) (fa := fa1) (ac := ac1) (F := F1) (R3 := R31) (GO := GO1) (W := W1) (SC := SC1) I1)
        refine ⟨r, cx', u', v', hR', fun q n hn hq => ?_, fun q n hn hq => ?_⟩
        · obtain ⟨n, rfl⟩ := Nat.exists_eq_succ_of_ne_zero (n := n) (by omega)
          exact br_f hlt (br_t hs (hX _ (br_f rg_1 (nm_e (nm_r (nI_1 i) (HX q n (by omega) hq))))))
        · obtain ⟨n, rfl⟩ := Nat.exists_eq_succ_of_ne_zero (n := n) (by omega)
          exact br_f hlt (br_t hs (hY _ (br_f rg_1 (nm_e (nm_e (nm_r (nI_1 i) (HY q n (by omega) hq)))))))
    · refine ⟨c, cx, (sl, wl, dl, st, fa, ri, si, so, ac, rg_P pa pb pc, rg_P qa qb qc, fc, cx, L, F, R1, R2, R3, GC, GO, W, H, SC, FR), (sl, wl, dl, st, fa, ri, si, so, ac, pa, pb, pc, qa, qb, qc, cx, fc, D, L, F, R1, R2, R3, GC, GO, W, FR, H, SC), rg_mk I, fun q n hn hq => ?_, fun q n hn hq => ?_⟩
      · obtain ⟨n, rfl⟩ := Nat.exists_eq_succ_of_ne_zero (n := n) (by omega)
        exact br_f hlt (br_f hs hq)
      · obtain ⟨n, rfl⟩ := Nat.exists_eq_succ_of_ne_zero (n := n) (by omega)
        exact br_f hlt (br_f hs hq)
end
section
theorem rg_n1 {x : Int32} (h : ¬ x < 1) : ¬ x < 0 := by
  rw [Int32.lt_iff_toInt_lt] at h ⊢
  rw [show (1 : Int32).toInt = 1 from by decide] at h
  rw [show (0 : Int32).toInt = 0 from by decide]
  omega
theorem rg_n1' {x : Int32} (h : ¬ x < 1) : ¬ x ≤ 0 := by
  rw [Int32.lt_iff_toInt_lt] at h
  rw [Int32.le_iff_toInt_le]
  rw [show (1 : Int32).toInt = 1 from by decide] at h
  rw [show (0 : Int32).toInt = 0 from by decide]
  omega
theorem rg_65 {x : Int32} : x < 6 ↔ x ≤ 5 := by
  rw [Int32.lt_iff_toInt_lt, Int32.le_iff_toInt_le, show (6 : Int32).toInt = 6 from by decide, show (5 : Int32).toInt = 5 from by decide]
  omega
theorem rg_or5 (A b c d e : Int32) : (((A ||| b) ||| c) ||| d) ||| e = (A ||| ((b ||| c) ||| d)) ||| e := by
  simp only [Int32.or_assoc]
theorem rg_B7 {x : Int32} (h0 : ¬ x < 0) (h : ¬ 7 < x) : rg_B 8 x := rg_Ble (n := 8) (y := 7) ⟨7, by decide, rfl⟩ (by decide) h0 (rg_nl.mp h)
/-- the arrays of a segment after defineSegment -/
theorem rg_SegD {L R1 R2 GC : Nat → Int32} {k : Nat} {l a b : Int32} (hS : rg_Seg L R1 R2 GC) (hl : rg_B 33 l) (ha : rg_B 8 a) (hb : rg_B 8 b) (h : a ≤ b) : rg_Seg (upd L k l) (upd R1 k a) (upd R2 k b) (upd GC k 0) := by
  intro s
  by_cases e : s = k
  · subst e
    rw [pk_us, pk_us, pk_us, pk_us]
    exact ⟨hl, ha, hb, h, rg_B0 (by decide)⟩
  · rw [pk_un e, pk_un e, pk_un e, pk_un e]
    exact hS s
theorem rg_SegG {L R1 R2 GC : Nat → Int32} {k : Nat} {c : Int32} (hS : rg_Seg L R1 R2 GC) (hc : rg_B 5 c) : rg_Seg L R1 R2 (upd GC k c) := by
  intro s
  by_cases e : s = k
  · subst e
    rw [pk_us]
    exact ⟨(hS s).1, (hS s).2.1, (hS s).2.2.1, (hS s).2.2.2.1, hc⟩
  · rw [pk_un e]
    exact hS s
theorem rg_DdD {D L : Nat → Int32} {k : Nat} {l : Int32} (hD : rg_Dd D L) (hl : ¬ l ≤ 0) : rg_Dd (upd D k (vp_nar .boolean 1)) (upd L k l) := by
  intro s
  by_cases e : s = k
  · subst e
    rw [pk_us, pk_us]
    exact ⟨fun z => absurd z (by decide), fun z => absurd z hl⟩
  · rw [pk_un e, pk_un e]
    exact hD s
/-- the relation: the same arrays and registers on both sides, the pointers packed in the class; the counts are equal -/
def i_Rel (_ : Nat) (u : SX) (v : SY) : Prop := ∃ c : Int32, rg_R c c u v
theorem i_up {k : Nat} {u : SX} {v : SY} (h : i_Rel k u v) : i_Rel (k + 5) u v := h
theorem i_vc_peek {k : Nat} {u : SX} {v : SY} (I : i_Rel k u v) (hk : k + 5 ≤ 2563) (v1 : Int32) (v2 : Int32) : wpX_peek (fun r => wpY_peek (fun r' => r' = r ∧ i_Rel (k + 5) u v) v v1 v2) u v1 v2 := by
  obtain ⟨cx, sl, wl, dl, st, fa, ri, si, so, ac, pa, pb, pc, qa, qb, qc, fc, D, L, F, R1, R2, R3, GC, GO, W, FR, H, SC, rfl, rfl, I⟩ := I
  have I0 : i_Rel (k + 5) (sl, wl, dl, st, fa, ri, si, so, ac, rg_P pa pb pc, rg_P qa qb qc, fc, cx, L, F, R1, R2, R3, GC, GO, W, H, SC, FR) (sl, wl, dl, st, fa, ri, si, so, ac, pa, pb, pc, qa, qb, qc, cx, fc, D, L, F, R1, R2, R3, GC, GO, W, FR, H, SC) := ⟨cx, rg_mk I⟩
  obtain ⟨c1, c2, c3, hS, hD, hH, hF, b1, b2, b3, p1, p2, p3, q1, q2, q3⟩ := I
  unfold wpX_peek wpY_peek
  by_cases hw : rg_W sl L v1 v2
  · exact xl_isWord c1 (fun _ => br_f rg_1 ⟨rg_WI c1 hS hw, yl_defined c1 hD (fun hd => br_f rg_1 (br_f hw.2.1 ⟨rg_DI c1 hd, br_t (rg_nle.mp hw.2.2) ⟨rg_WI c1 hS hw, And.intro rfl I0⟩⟩)) (fun hd => absurd hw.1 hd)⟩) (fun z => absurd hw z)
  · exact xl_isWord c1 (fun z => absurd z hw) (fun _ => br_t rfl (yl_defined c1 hD (fun hd => br_f rg_1 (br_c (fun _ => And.intro rfl I0) (fun h0 => ⟨rg_DI c1 hd, br_c (fun h1 => absurd ⟨hd, h0, rg_nle.mpr h1⟩ hw) (fun _ => And.intro rfl I0)⟩))) (fun _ => br_t rfl (And.intro rfl I0))))
theorem i_vc_poke {k : Nat} {u : SX} {v : SY} (I : i_Rel k u v) (hk : k + 5 ≤ 2563) (v1 : Int32) (v2 : Int32) (v3 : Int32) : wpX_poke (fun r u' => wpY_poke (fun r' v' => r' = r ∧ i_Rel (k + 5) u' v') v v1 v2 v3) u v1 v2 v3 := by
  obtain ⟨cx, sl, wl, dl, st, fa, ri, si, so, ac, pa, pb, pc, qa, qb, qc, fc, D, L, F, R1, R2, R3, GC, GO, W, FR, H, SC, rfl, rfl, I⟩ := I
  have I0 : i_Rel (k + 5) (sl, wl, dl, st, fa, ri, si, so, ac, rg_P pa pb pc, rg_P qa qb qc, fc, cx, L, F, R1, R2, R3, GC, GO, W, H, SC, FR) (sl, wl, dl, st, fa, ri, si, so, ac, pa, pb, pc, qa, qb, qc, cx, fc, D, L, F, R1, R2, R3, GC, GO, W, FR, H, SC) := ⟨cx, rg_mk I⟩
  obtain ⟨c1, c2, c3, hS, hD, hH, hF, b1, b2, b3, p1, p2, p3, q1, q2, q3⟩ := I
  unfold wpX_poke wpY_poke
  by_cases hw : rg_W sl L v1 v2
  · have I1 : i_Rel (k + 5) (sl, wl, dl, st, fa, ri, si, so, ac, rg_P pa pb pc, rg_P qa qb qc, fc, cx, L, F, R1, R2, R3, GC, GO, upd W (v1 * 32 + v2).toNatClampNeg v3, H, SC, FR) (sl, wl, dl, st, fa, ri, si, so, ac, pa, pb, pc, qa, qb, qc, cx, fc, D, L, F, R1, R2, R3, GC, GO, upd W (v1 * 32 + v2).toNatClampNeg v3, FR, H, SC) := ⟨cx, rg_mk ⟨c1, c2, c3, hS, hD, hH, hF, b1, b2, b3, p1, p2, p3, q1, q2, q3⟩⟩
    exact xl_isWord c1 (fun _ => br_f rg_1 ⟨rg_WI c1 hS hw, nm_e (yl_defined c1 hD (fun hd => br_f rg_1 (br_f hw.2.1 ⟨rg_DI c1 hd, br_t (rg_nle.mp hw.2.2) ⟨rg_WI c1 hS hw, nm_e (And.intro rfl I1)⟩⟩)) (fun hd => absurd hw.1 hd))⟩) (fun z => absurd hw z)
  · exact xl_isWord c1 (fun z => absurd z hw) (fun _ => br_t rfl (yl_defined c1 hD (fun hd => br_f rg_1 (br_c (fun _ => And.intro rfl I0) (fun h0 => ⟨rg_DI c1 hd, br_c (fun h1 => absurd ⟨hd, h0, rg_nle.mpr h1⟩ hw) (fun _ => And.intro rfl I0)⟩))) (fun _ => br_t rfl (And.intro rfl I0))))
theorem i_vc_addGate {k : Nat} {u : SX} {v : SY} (I : i_Rel k u v) (hk : k + 5 ≤ 2563) (v1 : Int32) (v2 : Int32) : wpX_addGate (fun r u' => wpY_addGate (fun r' v' => r' = r ∧ i_Rel (k + 5) u' v') v v1 v2) u v1 v2 := by
  obtain ⟨cx, sl, wl, dl, st, fa, ri, si, so, ac, pa, pb, pc, qa, qb, qc, fc, D, L, F, R1, R2, R3, GC, GO, W, FR, H, SC, rfl, rfl, I⟩ := I
  have I0 : i_Rel (k + 5) (sl, wl, dl, st, fa, ri, si, so, ac, rg_P pa pb pc, rg_P qa qb qc, fc, cx, L, F, R1, R2, R3, GC, GO, W, H, SC, FR) (sl, wl, dl, st, fa, ri, si, so, ac, pa, pb, pc, qa, qb, qc, cx, fc, D, L, F, R1, R2, R3, GC, GO, W, FR, H, SC) := ⟨cx, rg_mk I⟩
  obtain ⟨c1, c2, c3, hS, hD, hH, hF, b1, b2, b3, p1, p2, p3, q1, q2, q3⟩ := I
  unfold wpX_addGate wpY_addGate
  by_cases hw : rg_W sl L v1 v2
  · have hv := rg_DI c1 hw.1
    have h8 := rg_D8' c1 hw.1
    by_cases h4 : 4 ≤ GC v1.toNatClampNeg
    · exact xl_isWord c1 (fun _ => br_f rg_1 ⟨hv, nm_e (br_t h4 (yl_defined c1 hD (fun hd => br_f rg_1 (br_f hw.2.1 ⟨rg_DI c1 hd, br_t (rg_nle.mp hw.2.2) ⟨hv, br_f (rg_nl.mpr h4) (And.intro rfl I0)⟩⟩)) (fun hd => absurd hw.1 hd)))⟩) (fun z => absurd hw z)
    · by_cases hg : rg_G GC GO v1 v2
      · exact xl_isWord c1 (fun _ => br_f rg_1 ⟨hv, nm_e (br_f h4 (xl_isGate h8 (hS _).2.2.2.2 (fun _ => br_f rg_1 (yl_defined c1 hD (fun hd => br_f rg_1 (br_f hw.2.1 ⟨rg_DI c1 hd, br_t (rg_nle.mp hw.2.2) ⟨hv, br_t (rg_nle.mp h4) (yl_isGate h8 (fun _ => br_f rg_1 (And.intro rfl I0)) (fun z => absurd hg z))⟩⟩)) (fun hd => absurd hw.1 hd))) (fun z => absurd hg z)))⟩) (fun z => absurd hw z)
      · have hc : rg_B 4 (GC v1.toNatClampNeg) := rg_Bl (n := 4) (y := 4) ⟨4, by decide, rfl⟩ (by decide) (rg_Bn (hS _).2.2.2.2 (by decide)) (rg_nle.mp h4)
        have I1 : i_Rel (k + 5) (sl, wl, dl, st, fa, ri, si, so, ac, rg_P pa pb pc, rg_P qa qb qc, fc, cx, L, F, R1, R2, R3, upd GC v1.toNatClampNeg (GC v1.toNatClampNeg + 1), upd GO (v1 * 4 + GC v1.toNatClampNeg).toNatClampNeg v2, W, H, SC, FR) (sl, wl, dl, st, fa, ri, si, so, ac, pa, pb, pc, qa, qb, qc, cx, fc, D, L, F, R1, R2, R3, upd GC v1.toNatClampNeg (GC v1.toNatClampNeg + 1), upd GO (v1 * 4 + GC v1.toNatClampNeg).toNatClampNeg v2, W, FR, H, SC) := ⟨cx, rg_mk ⟨c1, c2, c3, rg_SegG hS (rg_Bs hc), hD, hH, hF, b1, b2, b3, p1, p2, p3, q1, q2, q3⟩⟩
        exact xl_isWord c1 (fun _ => br_f rg_1 ⟨hv, nm_e (br_f h4 (xl_isGate h8 (hS _).2.2.2.2 (fun z => absurd z hg) (fun _ => br_t rfl ⟨rg_i4 h8 hc, nm_e ⟨hv, nm_e (yl_defined c1 hD (fun hd => br_f rg_1 (br_f hw.2.1 ⟨rg_DI c1 hd, br_t (rg_nle.mp hw.2.2) ⟨hv, br_t (rg_nle.mp h4) (yl_isGate h8 (fun z => absurd z hg) (fun _ => br_t rfl ⟨hv, rg_i4 h8 hc, nm_e ⟨hv, hv, nm_e (And.intro rfl I1)⟩⟩))⟩⟩)) (fun hd => absurd hw.1 hd))⟩⟩)))⟩) (fun z => absurd hw z)
  · exact xl_isWord c1 (fun z => absurd z hw) (fun _ => br_t rfl (yl_defined c1 hD (fun hd => br_f rg_1 (br_c (fun _ => And.intro rfl I0) (fun h0 => ⟨rg_DI c1 hd, br_c (fun h1 => absurd ⟨hd, h0, rg_nle.mpr h1⟩ hw) (fun _ => And.intro rfl I0)⟩))) (fun _ => br_t rfl (And.intro rfl I0))))
theorem i_vc_segment {k : Nat} {u : SX} {v : SY} (I : i_Rel k u v) (hk : k + 5 ≤ 2563) (v1 : Int32) : wpX_segment (fun r => wpY_segment (fun r' => r' = r ∧ i_Rel (k + 5) u v) v v1) u v1 := by
  obtain ⟨cx, sl, wl, dl, st, fa, ri, si, so, ac, pa, pb, pc, qa, qb, qc, fc, D, L, F, R1, R2, R3, GC, GO, W, FR, H, SC, rfl, rfl, I⟩ := I
  have I0 : i_Rel (k + 5) (sl, wl, dl, st, fa, ri, si, so, ac, rg_P pa pb pc, rg_P qa qb qc, fc, cx, L, F, R1, R2, R3, GC, GO, W, H, SC, FR) (sl, wl, dl, st, fa, ri, si, so, ac, pa, pb, pc, qa, qb, qc, cx, fc, D, L, F, R1, R2, R3, GC, GO, W, FR, H, SC) := ⟨cx, rg_mk I⟩
  obtain ⟨c1, c2, c3, hS, hD, hH, hF, b1, b2, b3, p1, p2, p3, q1, q2, q3⟩ := I
  unfold wpX_segment wpY_segment
  by_cases hd : rg_D sl L v1
  · have hv := rg_DI c1 hd
    exact xl_isDefined c1 (fun _ => br_f rg_1 ⟨hv, hv, hv, nm_e ⟨hv, hv, hv, yl_defined c1 hD (fun _ => br_f rg_1 ⟨hv, hv, hv, hv, hv, hv, And.intro (rg_or5 _ _ _ _ _) I0⟩) (fun z => absurd hd z)⟩⟩) (fun z => absurd hd z)
  · exact xl_isDefined c1 (fun z => absurd z hd) (fun _ => br_t rfl (yl_defined c1 hD (fun z => absurd z hd) (fun _ => br_t rfl (And.intro rfl I0))))
theorem i_vc_gate {k : Nat} {u : SX} {v : SY} (I : i_Rel k u v) (hk : k + 5 ≤ 2563) (v1 : Int32) (v2 : Int32) : wpX_gate (fun r => wpY_gate (fun r' => r' = r ∧ i_Rel (k + 5) u v) v v1 v2) u v1 v2 := by
  obtain ⟨cx, sl, wl, dl, st, fa, ri, si, so, ac, pa, pb, pc, qa, qb, qc, fc, D, L, F, R1, R2, R3, GC, GO, W, FR, H, SC, rfl, rfl, I⟩ := I
  have I0 : i_Rel (k + 5) (sl, wl, dl, st, fa, ri, si, so, ac, rg_P pa pb pc, rg_P qa qb qc, fc, cx, L, F, R1, R2, R3, GC, GO, W, H, SC, FR) (sl, wl, dl, st, fa, ri, si, so, ac, pa, pb, pc, qa, qb, qc, cx, fc, D, L, F, R1, R2, R3, GC, GO, W, FR, H, SC) := ⟨cx, rg_mk I⟩
  obtain ⟨c1, c2, c3, hS, hD, hH, hF, b1, b2, b3, p1, p2, p3, q1, q2, q3⟩ := I
  unfold wpX_gate wpY_gate
  by_cases hd : rg_D sl L v1
  · have hv := rg_DI c1 hd
    by_cases h0 : v2 < 0
    · exact xl_isDefined c1 (fun _ => br_f rg_1 (br_t h0 (yl_defined c1 hD (fun _ => br_f rg_1 (br_t h0 (And.intro rfl I0))) (fun z => absurd hd z)))) (fun z => absurd hd z)
    · by_cases h1 : v2 < GC v1.toNatClampNeg
      · have hi := rg_i4 (rg_D8' c1 hd) (rg_Bl (n := 4) (hS v1.toNatClampNeg).2.2.2.2 (by decide) h0 h1)
        exact xl_isDefined c1 (fun _ => br_f rg_1 (br_f h0 ⟨hv, br_t h1 ⟨hi, yl_defined c1 hD (fun _ => br_f rg_1 (br_f h0 ⟨hv, br_t h1 ⟨hi, And.intro rfl I0⟩⟩)) (fun z => absurd hd z)⟩⟩)) (fun z => absurd hd z)
      · exact xl_isDefined c1 (fun _ => br_f rg_1 (br_f h0 ⟨hv, br_f h1 (yl_defined c1 hD (fun _ => br_f rg_1 (br_f h0 ⟨hv, br_f h1 (And.intro rfl I0)⟩)) (fun z => absurd hd z))⟩)) (fun z => absurd hd z)
  · exact xl_isDefined c1 (fun z => absurd z hd) (fun _ => br_t rfl (yl_defined c1 hD (fun z => absurd z hd) (fun _ => br_t rfl (And.intro rfl I0))))
theorem i_vc_access {k : Nat} {u : SX} {v : SY} (I : i_Rel k u v) (hk : k + 5 ≤ 2563) (v1 : Int32) (v2 : Int32) (v3 : Int32) (v4 : Int32) : wpX_access (fun r => wpY_access (fun r' => r' = r ∧ i_Rel (k + 5) u v) v v1 v2 v3 v4) u v1 v2 v3 v4 := by
  obtain ⟨cx, sl, wl, dl, st, fa, ri, si, so, ac, pa, pb, pc, qa, qb, qc, fc, D, L, F, R1, R2, R3, GC, GO, W, FR, H, SC, rfl, rfl, I⟩ := I
  have I0 : i_Rel (k + 5) (sl, wl, dl, st, fa, ri, si, so, ac, rg_P pa pb pc, rg_P qa qb qc, fc, cx, L, F, R1, R2, R3, GC, GO, W, H, SC, FR) (sl, wl, dl, st, fa, ri, si, so, ac, pa, pb, pc, qa, qb, qc, cx, fc, D, L, F, R1, R2, R3, GC, GO, W, FR, H, SC) := ⟨cx, rg_mk I⟩
  obtain ⟨c1, c2, c3, hS, hD, hH, hF, b1, b2, b3, p1, p2, p3, q1, q2, q3⟩ := I
  unfold wpX_access
  by_cases h0 : v3 < 0
  · exact xl_isRing (fun z => absurd h0 z) (fun _ => br_t rfl (br_t h0 (And.intro rfl I0)))
  by_cases h7 : 7 < v3
  · exact xl_isRing (fun _ z => absurd h7 z) (fun _ => br_t rfl (br_f h0 (br_f (rg_nle.mpr h7) (And.intro rfl I0))))
  have h7' : v3 ≤ 7 := rg_nl.mp h7
  by_cases hw : rg_W sl L v1 v2
  · by_cases k0 : v4 < 0
    · exact xl_isRing (fun _ _ => br_f rg_1 (xl_isWord c1 (fun _ => br_f rg_1 (br_t k0 (br_f h0 (br_t h7' (br_t k0 (And.intro rfl I0)))))) (fun z => absurd hw z))) (fun z => absurd ⟨h0, h7⟩ z)
    by_cases k3 : 3 < v4
    · exact xl_isRing (fun _ _ => br_f rg_1 (xl_isWord c1 (fun _ => br_f rg_1 (br_f k0 (br_t k3 (br_f h0 (br_t h7' (br_f k0 (br_f (rg_nle.mpr k3) (And.intro rfl I0)))))))) (fun z => absurd hw z))) (fun z => absurd ⟨h0, h7⟩ z)
    have hv := rg_DI c1 hw.1
    have h8 := rg_D8' c1 hw.1
    have hk : v4 = 0 ∨ v4 = 1 ∨ v4 = 2 ∨ v4 = 3 := by
      obtain ⟨j, hj, rfl⟩ := rg_Ble (n := 4) (y := 3) ⟨3, by decide, rfl⟩ (by decide) k0 (rg_nl.mp k3)
      have hc : j = 0 ∨ j = 1 ∨ j = 2 ∨ j = 3 := by omega
      rcases hc with rfl | rfl | rfl | rfl
      · exact Or.inl rfl
      · exact Or.inr (Or.inl rfl)
      · exact Or.inr (Or.inr (Or.inl rfl))
      · exact Or.inr (Or.inr (Or.inr rfl))
    refine xl_isRing (fun _ _ => br_f rg_1 (xl_isWord c1 (fun _ => br_f rg_1 (br_f k0 (br_f k3 ?_))) (fun z => absurd hw z))) (fun z => absurd ⟨h0, h7⟩ z)
    rcases hk with rfl | rfl | rfl | rfl
    · by_cases hm : rg_MR F R2 v1 v3
      · exact br_t rfl (xl_mayRead hv (fun _ => And.intro rfl (br_f h0 (br_t h7' (br_f k0 (br_t (rg_nl.mp k3) (yl_rule0 c1 hD hw (fun _ => And.intro rfl (And.intro rfl I0)) (fun z => absurd hm z))))))) (fun z => absurd hm z))
      · exact br_t rfl (xl_mayRead hv (fun z => absurd z hm) (fun _ => And.intro rfl (br_f h0 (br_t h7' (br_f k0 (br_t (rg_nl.mp k3) (yl_rule0 c1 hD hw (fun z => absurd z hm) (fun _ => And.intro rfl (And.intro rfl I0)))))))))
    · by_cases hm : rg_MW F R1 v1 v3
      · exact br_f (by decide) (br_t rfl (xl_mayWrite hv (fun _ => And.intro rfl (br_f h0 (br_t h7' (br_f k0 (br_t (rg_nl.mp k3) (yl_rule1 c1 hD hw (fun _ => And.intro rfl (And.intro rfl I0)) (fun z => absurd hm z))))))) (fun z => absurd hm z)))
      · exact br_f (by decide) (br_t rfl (xl_mayWrite hv (fun z => absurd z hm) (fun _ => And.intro rfl (br_f h0 (br_t h7' (br_f k0 (br_t (rg_nl.mp k3) (yl_rule1 c1 hD hw (fun z => absurd z hm) (fun _ => And.intro rfl (And.intro rfl I0))))))))))
    · by_cases hm : rg_MX F R1 R2 v1 v3
      · exact br_f (by decide) (br_f (by decide) (br_t rfl (xl_mayExecute hv (fun _ => And.intro rfl (br_f h0 (br_t h7' (br_f k0 (br_t (rg_nl.mp k3) (yl_rule2 c1 hD hw (fun _ => And.intro rfl (And.intro rfl I0)) (fun z => absurd hm z))))))) (fun z => absurd hm z))))
      · exact br_f (by decide) (br_f (by decide) (br_t rfl (xl_mayExecute hv (fun z => absurd z hm) (fun _ => And.intro rfl (br_f h0 (br_t h7' (br_f k0 (br_t (rg_nl.mp k3) (yl_rule2 c1 hD hw (fun z => absurd z hm) (fun _ => And.intro rfl (And.intro rfl I0)))))))))))
    · refine br_f (by decide) (br_f (by decide) (br_f (by decide) (br_t rfl ?_)))
      by_cases hm : rg_MC F R3 v1 v3
      · by_cases hr : v3 ≤ R2 v1.toNatClampNeg
        · exact xl_isCallable hv (fun _ => br_f rg_1 ⟨hv, br_t hr (br_f h0 (br_t h7' (br_f k0 (br_t (rg_nl.mp k3) (yl_rule3 c1 hD hw (fun _ _ => And.intro rfl (And.intro rfl I0)) (fun z => absurd ⟨hm, Or.inl hr⟩ z))))))⟩) (fun z => absurd hm z)
        · by_cases hg : rg_G GC GO v1 v2
          · exact xl_isCallable hv (fun _ => br_f rg_1 ⟨hv, br_f hr (xl_isGate h8 (hS _).2.2.2.2 (fun _ => br_f rg_1 (br_f h0 (br_t h7' (br_f k0 (br_t (rg_nl.mp k3) (yl_rule3 c1 hD hw (fun _ _ => And.intro rfl (And.intro rfl I0)) (fun z => absurd ⟨hm, Or.inr hg⟩ z))))))) (fun z => absurd hg z))⟩) (fun z => absurd hm z)
          · exact xl_isCallable hv (fun _ => br_f rg_1 ⟨hv, br_f hr (xl_isGate h8 (hS _).2.2.2.2 (fun z => absurd z hg) (fun _ => br_t rfl (br_f h0 (br_t h7' (br_f k0 (br_t (rg_nl.mp k3) (yl_rule3 c1 hD hw (fun _ z => absurd z (fun t => t.elim hr hg)) (fun _ => And.intro rfl (And.intro rfl I0)))))))))⟩) (fun z => absurd hm z)
      · exact xl_isCallable hv (fun z => absurd z hm) (fun _ => br_t rfl (br_f h0 (br_t h7' (br_f k0 (br_t (rg_nl.mp k3) (yl_rule3 c1 hD hw (fun z => absurd z hm) (fun _ => And.intro rfl (And.intro rfl I0))))))))
  · refine xl_isRing (fun _ _ => br_f rg_1 (xl_isWord c1 (fun z => absurd z hw) (fun _ => br_t rfl (br_f h0 (br_t h7' ?_))))) (fun z => absurd ⟨h0, h7⟩ z)
    by_cases k0 : v4 < 0
    · exact br_t k0 (And.intro rfl I0)
    by_cases k3 : v4 ≤ 3
    · exact br_f k0 (br_t k3 (yl_ruleF c1 hD hw (And.intro rfl (And.intro rfl I0))))
    · exact br_f k0 (br_f k3 (And.intro rfl I0))
end
section
section
variable {sl wl dl st fa ri si so ac pa pb pc qa qb qc cx cy fc : Int32} {D L F R1 R2 R3 GC GO W FR H SC : Nat → Int32}
variable {pq : Int32 → SY → Prop} {ps : SY → Prop} {s : Int32}
theorem yl_clearLoop {W0 : Nat → Int32} (hs : rg_B 8 s) (hp : pq 1 (sl, wl, dl, st, fa, ri, si, so, ac, pa, pb, pc, qa, qb, qc, cy, fc, D, L, F, R1, R2, R3, GC, GO, rg_cl W0 (s * 32) 32, FR, H, SC)) : ∀ d i : Nat, i + d = 32 → wY_defineSegment_160 pq s sl wl dl st fa ri si so ac pa pb pc qa qb qc cy fc (d + 1) (nI i) D L F R1 R2 R3 GC GO (rg_cl W0 (s * 32) i) FR H SC := by
  intro d
  induction d with
  | zero =>
    intro i hi
    have e : i = 32 := by omega
    subst e
    exact br_t (by decide) hp
  | succ d ih =>
    intro i hi
    exact br_f (nI_ge (b := 32) (by omega) (by decide)) ⟨rg_i32 hs ⟨i, by omega, rfl⟩, nm_e (nm_r (nI_1 i) (ih (i + 1) (by omega)))⟩
theorem yl_startLoop {H0 : Nat → Int32} (hp : pq 1 (sl, wl, dl, st, fa, ri, si, so, ac, pa, pb, pc, qa, qb, qc, 0, fc, D, L, F, R1, R2, R3, GC, GO, W, FR, rg_z H0 8, SC)) : ∀ d i : Nat, i + d = 8 → wY_start_104 pq sl wl dl st fa ri si so ac pa pb pc qa qb qc cy fc (d + 1) (nI i) D L F R1 R2 R3 GC GO W FR (rg_z H0 i) SC := by
  intro d
  induction d with
  | zero =>
    intro i hi
    have e : i = 8 := by omega
    subst e
    exact br_t (by decide) hp
  | succ d ih =>
    intro i hi
    exact br_f (nI_ge (b := 8) (by omega) (by decide)) ⟨vp_in_nI (by omega) (by decide), nm_e (nm_r (nI_1 i) (ih (i + 1) (by omega)))⟩
theorem yl_151 {x z : Int32} (h : ps (sl, z, if 4 ≤ x then (if x ≤ 16 then x else 16) else 4, st, fa, ri, si, so, ac, pa, pb, pc, qa, qb, qc, cy, fc, D, L, F, R1, R2, R3, GC, GO, W, FR, H, SC)) : wY_init_151 ps x z sl wl dl st fa ri si so ac pa pb pc qa qb qc cy fc D L F R1 R2 R3 GC GO W FR H SC := by
  by_cases a : 4 ≤ x
  · by_cases b : x ≤ 16
    · rw [if_pos a, if_pos b] at h; exact br_t a (br_t b h)
    · rw [if_pos a, if_neg b] at h; exact br_t a (br_f b h)
  · rw [if_neg a] at h; exact br_f a h
theorem yl_124 {x y z : Int32} (h : ps (z, if 8 ≤ x then (if x ≤ 32 then x else 32) else 8, if 4 ≤ y then (if y ≤ 16 then y else 16) else 4, st, fa, ri, si, so, ac, pa, pb, pc, qa, qb, qc, cy, fc, D, L, F, R1, R2, R3, GC, GO, W, FR, H, SC)) : wY_init_124 ps x y z sl wl dl st fa ri si so ac pa pb pc qa qb qc cy fc D L F R1 R2 R3 GC GO W FR H SC := by
  by_cases a : 8 ≤ x
  · by_cases b : x ≤ 32
    · rw [if_pos a, if_pos b] at h; exact br_t a (br_t b (yl_151 h))
    · rw [if_pos a, if_neg b] at h; exact br_t a (br_f b (yl_151 h))
  · rw [if_neg a] at h; exact br_f a (yl_151 h)
end
theorem rg_cB {x : Int32} (a b n : Nat) (h : a ≤ b) (hb : b < n) (hn : n < 2 ^ 30) : rg_B n (if nI a ≤ x then (if x ≤ nI b then x else nI b) else nI a) := by
  by_cases h1 : nI a ≤ x
  · rw [if_pos h1]
    by_cases h2 : x ≤ nI b
    · rw [if_pos h2]
      refine rg_Ble (y := nI b) ⟨b, hb, rfl⟩ hn ?_ h2
      exact rg_nl.mpr (Int32.le_trans (nI_pos' (by omega)) h1)
    · rw [if_neg h2]
      exact ⟨b, hb, rfl⟩
  · rw [if_neg h1]
    exact ⟨a, by omega, rfl⟩
theorem rg_P0 : rg_P 0 0 0 = 0 := by decide
theorem rg_Fs0 {FR : Nat → Int32} : rg_Fs 0 FR := ⟨0, by decide, rfl, fun f hf => absurd hf (Nat.not_lt_zero f)⟩
theorem i_vc0 (k0 : Int32) (k1 : Int32) (k2 : Int32) : wpX_init (fun u => wpY_init (fun v => i_Rel 3 u v) k0 k1 k2) k0 k1 k2 := by
  have hR : rg_R 0 0 ((if 2 ≤ k0 then (if k0 ≤ 8 then k0 else 8) else 2), (if 8 ≤ k1 then (if k1 ≤ 32 then k1 else 32) else 8), (if 4 ≤ k2 then (if k2 ≤ 16 then k2 else 16) else 4), 0, 0, 0, 0, 0, 0, (rg_P 0 0 0), (rg_P 0 0 0), 0, 0, (fun _ => 0), (fun _ => 0), (fun _ => 0), (fun _ => 0), (fun _ => 0), (fun _ => 0), (fun _ => 0), (fun _ => 0), (fun _ => 0), (fun _ => 0), (fun _ => 0)) ((if 2 ≤ k0 then (if k0 ≤ 8 then k0 else 8) else 2), (if 8 ≤ k1 then (if k1 ≤ 32 then k1 else 32) else 8), (if 4 ≤ k2 then (if k2 ≤ 16 then k2 else 16) else 4), 0, 0, 0, 0, 0, 0, 0, 0, 0, 0, 0, 0, 0, 0, (fun _ => 0), (fun _ => 0), (fun _ => 0), (fun _ => 0), (fun _ => 0), (fun _ => 0), (fun _ => 0), (fun _ => 0), (fun _ => 0), (fun _ => 0), (fun _ => 0), (fun _ => 0)) := by
    refine rg_mk ⟨rg_cB 2 8 9 (by decide) (by decide) (by decide), rg_cB 8 32 33 (by decide) (by decide) (by decide), rg_cB 4 16 17 (by decide) (by decide) (by decide), fun s => ⟨rg_B0 (by decide), rg_B0 (by decide), rg_B0 (by decide), Int32.le_refl _, rg_B0 (by decide)⟩, fun s => ⟨fun _ => Int32.le_refl _, fun _ => rfl⟩, fun s => rg_B0 (by decide), rg_Fs0, rg_B0 (by decide), rg_B0 (by decide), rg_B0 (by decide), rg_B0 (by decide), rg_B0 (by decide), rg_B0 (by decide), rg_B0 (by decide), rg_B0 (by decide), rg_B0 (by decide)⟩
  rw [rg_P0] at hR
  have hI : i_Rel 3 _ _ := ⟨0, hR⟩
  unfold wpX_init
  refine xl_clamp (xl_clamp (xl_clamp ?_))
  unfold wpY_init
  by_cases a : 2 ≤ k0
  · by_cases b : k0 ≤ 8
    · simp only [if_pos a, if_pos b] at hI ⊢; exact br_t a (br_t b (yl_124 hI))
    · simp only [if_pos a, if_neg b] at hI ⊢; exact br_t a (br_f b (yl_124 hI))
  · simp only [if_neg a] at hI ⊢; exact br_f a (yl_124 hI)
theorem i_vc_defineSegment {k : Nat} {u : SX} {v : SY} (I : i_Rel k u v) (hk : k + 5 ≤ 2563) (v1 : Int32) (v2 : Int32) (v3 : Int32) (v4 : Int32) : wpX_defineSegment (fun r u' => wpY_defineSegment (fun r' v' => r' = r ∧ i_Rel (k + 5) u' v') v v1 v2 v3 v4) u v1 v2 v3 v4 := by
  obtain ⟨cx, sl, wl, dl, st, fa, ri, si, so, ac, pa, pb, pc, qa, qb, qc, fc, D, L, F, R1, R2, R3, GC, GO, W, FR, H, SC, rfl, rfl, I⟩ := I
  have I0 : i_Rel (k + 5) (sl, wl, dl, st, fa, ri, si, so, ac, rg_P pa pb pc, rg_P qa qb qc, fc, cx, L, F, R1, R2, R3, GC, GO, W, H, SC, FR) (sl, wl, dl, st, fa, ri, si, so, ac, pa, pb, pc, qa, qb, qc, cx, fc, D, L, F, R1, R2, R3, GC, GO, W, FR, H, SC) := ⟨cx, rg_mk I⟩
  obtain ⟨c1, c2, c3, hS, hD, hH, hF, b1, b2, b3, p1, p2, p3, q1, q2, q3⟩ := I
  by_cases a0 : v1 < 0
  · exact (br_t a0 (br_t a0 (And.intro rfl I0)))
  by_cases a1 : v1 < sl
  rotate_left
  · exact (br_f a0 (br_f a1 (br_f a0 (br_f a1 (And.intro rfl I0)))))
  by_cases a2 : v2 < 1
  · exact (br_f a0 (br_t a1 (br_t a2 (br_f a0 (br_t a1 (br_t a2 (And.intro rfl I0)))))))
  by_cases a3 : v2 ≤ wl
  rotate_left
  · exact (br_f a0 (br_t a1 (br_f a2 (br_f a3 (br_f a0 (br_t a1 (br_f a2 (br_f a3 (And.intro rfl I0)))))))))
  by_cases a4 : v3 < 0
  · exact (br_f a0 (br_t a1 (br_f a2 (br_t a3 (br_t a4 (br_f a0 (br_t a1 (br_f a2 (br_t a3 (br_t a4 (And.intro rfl I0)))))))))))
  by_cases a5 : v3 ≤ 7
  rotate_left
  · exact (br_f a0 (br_t a1 (br_f a2 (br_t a3 (br_f a4 (br_f a5 (br_f a0 (br_t a1 (br_f a2 (br_t a3 (br_f a4 (br_f a5 (And.intro rfl I0)))))))))))))
  by_cases a6 : v4 < 0
  · exact (br_f a0 (br_t a1 (br_f a2 (br_t a3 (br_f a4 (br_t a5 (br_t a6 (br_f a0 (br_t a1 (br_f a2 (br_t a3 (br_f a4 (br_t a5 (br_t a6 (And.intro rfl I0)))))))))))))))
  by_cases a7 : v4 ≤ 4095
  rotate_left
  · exact (br_f a0 (br_t a1 (br_f a2 (br_t a3 (br_f a4 (br_t a5 (br_f a6 (br_f a7 (br_f a0 (br_t a1 (br_f a2 (br_t a3 (br_f a4 (br_t a5 (br_f a6 (br_f a7 (And.intro rfl I0)))))))))))))))))
  by_cases a9 : v4 >>> ((4 : Int32) &&& 31) &&& 15 < (v4 &&& 15)
  · exact (br_f a0 (br_t a1 (br_f a2 (br_t a3 (br_f a4 (br_t a5 (br_f a6 (br_t a7 (nm_e (nm_e (nm_e (br_t a9 (br_f a0 (br_t a1 (br_f a2 (br_t a3 (br_f a4 (br_t a5 (br_f a6 (br_t a7 (nm_e (nm_e (nm_e (br_t a9 (And.intro rfl I0)))))))))))))))))))))))))
  by_cases a10 : v4 >>> ((8 : Int32) &&& 31) &&& 15 < (v4 >>> ((4 : Int32) &&& 31) &&& 15)
  · exact (br_f a0 (br_t a1 (br_f a2 (br_t a3 (br_f a4 (br_t a5 (br_f a6 (br_t a7 (nm_e (nm_e (nm_e (br_f a9 (br_t a10 (br_f a0 (br_t a1 (br_f a2 (br_t a3 (br_f a4 (br_t a5 (br_f a6 (br_t a7 (nm_e (nm_e (nm_e (br_f a9 (br_t a10 (And.intro rfl I0)))))))))))))))))))))))))))
  by_cases a11 : v4 >>> ((8 : Int32) &&& 31) &&& 15 ≤ 7
  rotate_left
  · exact (br_f a0 (br_t a1 (br_f a2 (br_t a3 (br_f a4 (br_t a5 (br_f a6 (br_t a7 (nm_e (nm_e (nm_e (br_f a9 (br_f a10 (br_f a11 (br_f a0 (br_t a1 (br_f a2 (br_t a3 (br_f a4 (br_t a5 (br_f a6 (br_t a7 (nm_e (nm_e (nm_e (br_f a9 (br_f a10 (br_f a11 (And.intro rfl I0)))))))))))))))))))))))))))))
  have h8 : rg_B 8 v1 := rg_D8 c1 a0 (rg_nle.mpr a1)
  have hv : vp_in v1 8 := rg_Bin h8 (by decide)
  have e1 : v4 &&& 15 ≤ v4 >>> ((4 : Int32) &&& 31) &&& 15 := rg_nl.mp a9
  have e2 : v4 >>> ((4 : Int32) &&& 31) &&& 15 ≤ 7 := Int32.le_trans (rg_nl.mp a10) a11
  have g1 : rg_B 8 (v4 &&& 15) := rg_Ble (n := 8) (y := 7) ⟨7, by decide, rfl⟩ (by decide) (rg_Bn (rg_B15 _) (by decide)) (Int32.le_trans e1 e2)
  have g2 : rg_B 8 (v4 >>> ((4 : Int32) &&& 31) &&& 15) := rg_Ble (n := 8) (y := 7) ⟨7, by decide, rfl⟩ (by decide) (rg_Bn (rg_B15 _) (by decide)) e2
  have g3 : rg_B 33 v2 := rg_Ble c2 (by decide) (rg_n1 a2) a3
  have I1 : i_Rel (k + 5) (sl, wl, dl, st, fa, ri, si, so, ac, rg_P pa pb pc, rg_P qa qb qc, fc, cx, upd L v1.toNatClampNeg (v2), upd F v1.toNatClampNeg (v3), upd R1 v1.toNatClampNeg (v4 &&& 15), upd R2 v1.toNatClampNeg (v4 >>> ((4 : Int32) &&& 31) &&& 15), upd R3 v1.toNatClampNeg (v4 >>> ((8 : Int32) &&& 31) &&& 15), upd GC v1.toNatClampNeg (0), GO, rg_cl W (v1 * 32) 32, H, SC, FR) (sl, wl, dl, st, fa, ri, si, so, ac, pa, pb, pc, qa, qb, qc, cx, fc, upd D v1.toNatClampNeg (vp_nar .boolean 1), upd L v1.toNatClampNeg (v2), upd F v1.toNatClampNeg (v3), upd R1 v1.toNatClampNeg (v4 &&& 15), upd R2 v1.toNatClampNeg (v4 >>> ((4 : Int32) &&& 31) &&& 15), upd R3 v1.toNatClampNeg (v4 >>> ((8 : Int32) &&& 31) &&& 15), upd GC v1.toNatClampNeg (0), GO, rg_cl W (v1 * 32) 32, FR, H, SC) := ⟨cx, rg_mk ⟨c1, c2, c3, rg_SegD hS g3 g1 g2 e1, rg_DdD hD (rg_n1' a2), hH, hF, b1, b2, b3, p1, p2, p3, q1, q2, q3⟩⟩
  exact (br_f a0 (br_t a1 (br_f a2 (br_t a3 (br_f a4 (br_t a5 (br_f a6 (br_t a7 (nm_e (nm_e (nm_e (br_f a9 (br_f a10 (br_t a11 ⟨hv, nm_e ⟨hv, nm_e ⟨hv, nm_e ⟨hv, nm_e ⟨hv, nm_e ⟨hv, nm_e (xl_clearWords h8 (br_f a0 (br_t a1 (br_f a2 (br_t a3 (br_f a4 (br_t a5 (br_f a6 (br_t a7 (nm_e (nm_e (nm_e (br_f a9 (br_f a10 (br_t a11 ⟨hv, nm_e ⟨hv, nm_e ⟨hv, nm_e ⟨hv, nm_e ⟨hv, nm_e ⟨hv, nm_e ⟨hv, nm_e ⟨33, yl_clearLoop (W0 := W) h8 (And.intro rfl I1) 32 0 rfl⟩⟩⟩⟩⟩⟩⟩⟩)))))))))))))))⟩⟩⟩⟩⟩⟩))))))))))))))
theorem i_vc_start {k : Nat} {u : SX} {v : SY} (I : i_Rel k u v) (hk : k + 5 ≤ 2563) (v1 : Int32) (v2 : Int32) (v3 : Int32) : wpX_start (fun r u' => wpY_start (fun r' v' => r' = r ∧ i_Rel (k + 5) u' v') v v1 v2 v3) u v1 v2 v3 := by
  obtain ⟨cx, sl, wl, dl, st, fa, ri, si, so, ac, pa, pb, pc, qa, qb, qc, fc, D, L, F, R1, R2, R3, GC, GO, W, FR, H, SC, rfl, rfl, I⟩ := I
  have I0 : i_Rel (k + 5) (sl, wl, dl, st, fa, ri, si, so, ac, rg_P pa pb pc, rg_P qa qb qc, fc, cx, L, F, R1, R2, R3, GC, GO, W, H, SC, FR) (sl, wl, dl, st, fa, ri, si, so, ac, pa, pb, pc, qa, qb, qc, cx, fc, D, L, F, R1, R2, R3, GC, GO, W, FR, H, SC) := ⟨cx, rg_mk I⟩
  obtain ⟨c1, c2, c3, hS, hD, hH, hF, b1, b2, b3, p1, p2, p3, q1, q2, q3⟩ := I
  by_cases a0 : v1 < 0
  · exact (br_t a0 (br_t a0 (And.intro rfl I0)))
  by_cases a1 : sl ≤ v1
  · exact (br_f a0 (br_t a1 (br_f a0 (br_t a1 (And.intro rfl I0)))))
  by_cases a2 : v2 < 0
  · exact (br_f a0 (br_f a1 (br_t a2 (br_f a0 (br_f a1 (br_t a2 (And.intro rfl I0)))))))
  by_cases a3 : wl ≤ v2
  · exact (br_f a0 (br_f a1 (br_f a2 (br_t a3 (br_f a0 (br_f a1 (br_f a2 (br_t a3 (And.intro rfl I0)))))))))
  by_cases a4 : v3 < 0
  · exact (br_f a0 (br_f a1 (br_f a2 (br_f a3 (xl_isRing (fun z => absurd a4 z) (fun _ => br_t rfl (br_f a0 (br_f a1 (br_f a2 (br_f a3 (br_t a4 (And.intro rfl I0))))))))))))
  by_cases a5 : 7 < v3
  · exact (br_f a0 (br_f a1 (br_f a2 (br_f a3 (xl_isRing (fun _ z => absurd a5 z) (fun _ => br_t rfl (br_f a0 (br_f a1 (br_f a2 (br_f a3 (br_f a4 (br_f (rg_nle.mpr a5) (And.intro rfl I0)))))))))))))
  have g := rg_B7 a4 a5
  have I1 : i_Rel (k + 5) (sl, wl, dl, 1, 0, v3, v1, v2, 0, rg_P 0 0 v3, rg_P 0 0 v3, 0, 0, L, F, R1, R2, R3, GC, GO, W, rg_z H 8, SC, FR) (sl, wl, dl, 1, 0, v3, v1, v2, 0, 0, 0, v3, 0, 0, v3, 0, 0, D, L, F, R1, R2, R3, GC, GO, W, FR, rg_z H 8, SC) := ⟨0, rg_mk ⟨c1, c2, c3, hS, hD, rg_za hH (rg_B0 (by decide)) 8, rg_Fs0, g, rg_D8 c1 a0 a1, rg_Bm (rg_Bl (n := 32) c2 (by decide) a2 (rg_nle.mp a3)) (by decide), rg_B0 (by decide), rg_B0 (by decide), g, rg_B0 (by decide), rg_B0 (by decide), g⟩⟩
  refine (br_f a0 (br_f a1 (br_f a2 (br_f a3 (xl_isRing (fun _ _ => br_f rg_1 ?_) (fun z => absurd ⟨a4, a5⟩ z))))))
  unfold wpX_packPointer
  exact xl_emptyStacks (br_f a0 (br_f a1 (br_f a2 (br_f a3 (br_f a4 (br_t (rg_nl.mp a5) ⟨9, yl_startLoop (H0 := H) (And.intro rfl I1) 8 0 rfl⟩))))))
end
section
theorem i_vc_frame {k : Nat} {u : SX} {v : SY} (I : i_Rel k u v) (hk : k + 5 ≤ 2563) (v1 : Int32) (v2 : Int32) : wpX_frame (fun r => wpY_frame (fun r' => r' = r ∧ i_Rel (k + 5) u v) v v1 v2) u v1 v2 := by
  obtain ⟨cx, sl, wl, dl, st, fa, ri, si, so, ac, pa, pb, pc, qa, qb, qc, fc, D, L, F, R1, R2, R3, GC, GO, W, FR, H, SC, rfl, rfl, I⟩ := I
  have I0 : i_Rel (k + 5) (sl, wl, dl, st, fa, ri, si, so, ac, rg_P pa pb pc, rg_P qa qb qc, fc, cx, L, F, R1, R2, R3, GC, GO, W, H, SC, FR) (sl, wl, dl, st, fa, ri, si, so, ac, pa, pb, pc, qa, qb, qc, cx, fc, D, L, F, R1, R2, R3, GC, GO, W, FR, H, SC) := ⟨cx, rg_mk I⟩
  obtain ⟨c1, c2, c3, hS, hD, hH, hF, b1, b2, b3, p1, p2, p3, q1, q2, q3⟩ := I
  by_cases a0 : v1 < 0
  · exact br_t a0 (br_t a0 (And.intro rfl I0))
  by_cases a1 : fc ≤ v1
  · exact br_f a0 (br_t a1 (br_f a0 (br_t a1 (And.intro rfl I0))))
  by_cases a2 : v2 < 0
  · exact br_f a0 (br_f a1 (br_t a2 (br_f a0 (br_f a1 (br_t a2 (And.intro rfl I0))))))
  by_cases a3 : v2 < 6
  · have hf : rg_B 17 fc := by
      obtain ⟨n, hn, e, _⟩ := hF
      exact ⟨n, hn, e⟩
    have hi := rg_i6 (rg_Bl (n := 16) hf (by decide) a0 (rg_nle.mp a1)) (rg_Bl (n := 6) (y := 6) ⟨6, by decide, rfl⟩ (by decide) a2 a3)
    exact br_f a0 (br_f a1 (br_f a2 (br_t a3 ⟨hi, br_f a0 (br_f a1 (br_f a2 (br_t (rg_65.mp a3) ⟨hi, And.intro rfl I0⟩)))⟩)))
  · exact br_f a0 (br_f a1 (br_f a2 (br_f a3 (br_f a0 (br_f a1 (br_f a2 (br_f (fun z => a3 (rg_65.mpr z)) (And.intro rfl I0))))))))
theorem i_vc_stackHeight {k : Nat} {u : SX} {v : SY} (I : i_Rel k u v) (hk : k + 5 ≤ 2563) (v1 : Int32) : wpX_stackHeight (fun r => wpY_stackHeight (fun r' => r' = r ∧ i_Rel (k + 5) u v) v v1) u v1 := by
  obtain ⟨cx, sl, wl, dl, st, fa, ri, si, so, ac, pa, pb, pc, qa, qb, qc, fc, D, L, F, R1, R2, R3, GC, GO, W, FR, H, SC, rfl, rfl, I⟩ := I
  have I0 : i_Rel (k + 5) (sl, wl, dl, st, fa, ri, si, so, ac, rg_P pa pb pc, rg_P qa qb qc, fc, cx, L, F, R1, R2, R3, GC, GO, W, H, SC, FR) (sl, wl, dl, st, fa, ri, si, so, ac, pa, pb, pc, qa, qb, qc, cx, fc, D, L, F, R1, R2, R3, GC, GO, W, FR, H, SC) := ⟨cx, rg_mk I⟩
  obtain ⟨c1, c2, c3, hS, hD, hH, hF, b1, b2, b3, p1, p2, p3, q1, q2, q3⟩ := I
  unfold wpX_stackHeight
  by_cases a0 : v1 < 0
  · exact xl_isRing (fun z => absurd a0 z) (fun _ => br_t rfl (br_t a0 (And.intro rfl I0)))
  by_cases a1 : 7 < v1
  · exact xl_isRing (fun _ z => absurd a1 z) (fun _ => br_t rfl (br_f a0 (br_f (rg_nle.mpr a1) (And.intro rfl I0))))
  have hv := rg_Bin (rg_B7 a0 a1) (by decide)
  exact xl_isRing (fun _ _ => br_f rg_1 ⟨hv, br_f a0 (br_t (rg_nl.mp a1) ⟨hv, And.intro rfl I0⟩)⟩) (fun z => absurd ⟨a0, a1⟩ z)
theorem i_vc_stackValue {k : Nat} {u : SX} {v : SY} (I : i_Rel k u v) (hk : k + 5 ≤ 2563) (v1 : Int32) (v2 : Int32) : wpX_stackValue (fun r => wpY_stackValue (fun r' => r' = r ∧ i_Rel (k + 5) u v) v v1 v2) u v1 v2 := by
  obtain ⟨cx, sl, wl, dl, st, fa, ri, si, so, ac, pa, pb, pc, qa, qb, qc, fc, D, L, F, R1, R2, R3, GC, GO, W, FR, H, SC, rfl, rfl, I⟩ := I
  have I0 : i_Rel (k + 5) (sl, wl, dl, st, fa, ri, si, so, ac, rg_P pa pb pc, rg_P qa qb qc, fc, cx, L, F, R1, R2, R3, GC, GO, W, H, SC, FR) (sl, wl, dl, st, fa, ri, si, so, ac, pa, pb, pc, qa, qb, qc, cx, fc, D, L, F, R1, R2, R3, GC, GO, W, FR, H, SC) := ⟨cx, rg_mk I⟩
  obtain ⟨c1, c2, c3, hS, hD, hH, hF, b1, b2, b3, p1, p2, p3, q1, q2, q3⟩ := I
  unfold wpX_stackValue
  by_cases a0 : v1 < 0
  · exact xl_isRing (fun z => absurd a0 z) (fun _ => br_t rfl (br_t a0 (And.intro rfl I0)))
  by_cases a1 : 7 < v1
  · exact xl_isRing (fun _ z => absurd a1 z) (fun _ => br_t rfl (br_f a0 (br_t a1 (And.intro rfl I0))))
  have h8 := rg_B7 a0 a1
  have hv := rg_Bin h8 (by decide)
  by_cases a2 : v2 < 0
  · exact xl_isRing (fun _ _ => br_f rg_1 (br_t a2 (br_f a0 (br_f a1 (br_t a2 (And.intro rfl I0)))))) (fun z => absurd ⟨a0, a1⟩ z)
  by_cases a3 : v2 < H v1.toNatClampNeg
  · have hi := rg_i16 h8 (rg_Bl (n := 16) (hH v1.toNatClampNeg) (by decide) a2 a3)
    exact xl_isRing (fun _ _ => br_f rg_1 (br_f a2 ⟨hv, br_t a3 ⟨hi, br_f a0 (br_f a1 (br_f a2 ⟨hv, br_t a3 ⟨hi, And.intro rfl I0⟩⟩))⟩⟩)) (fun z => absurd ⟨a0, a1⟩ z)
  · exact xl_isRing (fun _ _ => br_f rg_1 (br_f a2 ⟨hv, br_f a3 (br_f a0 (br_f a1 (br_f a2 ⟨hv, br_f a3 (And.intro rfl I0)⟩)))⟩)) (fun z => absurd ⟨a0, a1⟩ z)
theorem i_vc_state {k : Nat} {u : SX} {v : SY} (I : i_Rel k u v) (hk : k + 5 ≤ 2563) (v1 : Int32) : wpX_state (fun r => wpY_state (fun r' => r' = r ∧ i_Rel (k + 5) u v) v v1) u v1 := by
  obtain ⟨cx, sl, wl, dl, st, fa, ri, si, so, ac, pa, pb, pc, qa, qb, qc, fc, D, L, F, R1, R2, R3, GC, GO, W, FR, H, SC, rfl, rfl, I⟩ := I
  have I0 : i_Rel (k + 5) (sl, wl, dl, st, fa, ri, si, so, ac, rg_P pa pb pc, rg_P qa qb qc, fc, cx, L, F, R1, R2, R3, GC, GO, W, H, SC, FR) (sl, wl, dl, st, fa, ri, si, so, ac, pa, pb, pc, qa, qb, qc, cx, fc, D, L, F, R1, R2, R3, GC, GO, W, FR, H, SC) := ⟨cx, rg_mk I⟩
  obtain ⟨c1, c2, c3, hS, hD, hH, hF, b1, b2, b3, p1, p2, p3, q1, q2, q3⟩ := I
  by_cases a0 : v1 < 0
  · have hn : ∀ i : Nat, i < 9 → ¬ v1 = nI i := fun i hi z => absurd a0 (by rw [z]; exact nI_pos (by omega))
    exact br_t a0 (br_f (hn 0 (by decide)) (br_f (hn 1 (by decide)) (br_f (hn 2 (by decide)) (br_f (hn 3 (by decide)) (br_f (hn 4 (by decide)) (br_f (hn 5 (by decide)) (br_f (hn 6 (by decide)) (br_f (hn 7 (by decide)) (br_f (hn 8 (by decide)) (And.intro rfl I0))))))))))
  by_cases a1 : 8 < v1
  · have hn : ∀ i : Nat, i < 9 → ¬ v1 = nI i := fun i hi z => absurd a1 (by rw [z]; exact nI_nlt (b := i) (a := 8) (by omega) (by omega))
    exact br_f a0 (br_t a1 (br_f (hn 0 (by decide)) (br_f (hn 1 (by decide)) (br_f (hn 2 (by decide)) (br_f (hn 3 (by decide)) (br_f (hn 4 (by decide)) (br_f (hn 5 (by decide)) (br_f (hn 6 (by decide)) (br_f (hn 7 (by decide)) (br_f (hn 8 (by decide)) (And.intro rfl I0)))))))))))
  obtain ⟨j, hj, rfl⟩ := rg_Ble (n := 9) (y := 8) ⟨8, by decide, rfl⟩ (by decide) a0 (rg_nl.mp a1)
  have hc : j = 0 ∨ j = 1 ∨ j = 2 ∨ j = 3 ∨ j = 4 ∨ j = 5 ∨ j = 6 ∨ j = 7 ∨ j = 8 := by omega
  refine br_f a0 (br_f a1 ?_)
  rcases hc with rfl | rfl | rfl | rfl | rfl | rfl | rfl | rfl | rfl
  · exact (br_t rfl (br_t rfl (And.intro rfl I0)))
  · exact (br_f (by decide) (br_t rfl (br_f (by decide) (br_t rfl (And.intro rfl I0)))))
  · exact (br_f (by decide) (br_f (by decide) (br_t rfl (br_f (by decide) (br_f (by decide) (br_t rfl (And.intro rfl I0)))))))
  · exact (br_f (by decide) (br_f (by decide) (br_f (by decide) (br_t rfl (br_f (by decide) (br_f (by decide) (br_f (by decide) (br_t rfl (And.intro rfl I0)))))))))
  · exact (br_f (by decide) (br_f (by decide) (br_f (by decide) (br_f (by decide) (br_t rfl (br_f (by decide) (br_f (by decide) (br_f (by decide) (br_f (by decide) (br_t rfl (And.intro rfl I0)))))))))))
  · exact (br_f (by decide) (br_f (by decide) (br_f (by decide) (br_f (by decide) (br_f (by decide) (br_t rfl (br_f (by decide) (br_f (by decide) (br_f (by decide) (br_f (by decide) (br_f (by decide) (br_t rfl (And.intro rfl I0)))))))))))))
  · exact (br_f (by decide) (br_f (by decide) (br_f (by decide) (br_f (by decide) (br_f (by decide) (br_f (by decide) (br_t rfl (br_f (by decide) (br_f (by decide) (br_f (by decide) (br_f (by decide) (br_f (by decide) (br_f (by decide) (br_t rfl (And.intro rfl I0)))))))))))))))
  · exact (br_f (by decide) (br_f (by decide) (br_f (by decide) (br_f (by decide) (br_f (by decide) (br_f (by decide) (br_f (by decide) (br_t rfl (br_f (by decide) (br_f (by decide) (br_f (by decide) (br_f (by decide) (br_f (by decide) (br_f (by decide) (br_f (by decide) (br_t rfl (And.intro rfl I0)))))))))))))))))
  · exact (br_f (by decide) (br_f (by decide) (br_f (by decide) (br_f (by decide) (br_f (by decide) (br_f (by decide) (br_f (by decide) (br_f (by decide) (br_t rfl (br_f (by decide) (br_f (by decide) (br_f (by decide) (br_f (by decide) (br_f (by decide) (br_f (by decide) (br_f (by decide) (br_f (by decide) (br_t rfl (And.intro rfl I0)))))))))))))))))))
theorem i_vc_run {k : Nat} {u : SX} {v : SY} (I : i_Rel k u v) (hk : k + 5 ≤ 2563) (v1 : Int32) : wpX_run (fun r u' => wpY_run (fun r' v' => r' = r ∧ i_Rel (k + 5) u' v') v v1) u v1 := by
  obtain ⟨cx, sl, wl, dl, st, fa, ri, si, so, ac, pa, pb, pc, qa, qb, qc, fc, D, L, F, R1, R2, R3, GC, GO, W, FR, H, SC, rfl, rfl, I⟩ := I
  have I0 : i_Rel (k + 5) (sl, wl, dl, st, fa, ri, si, so, ac, rg_P pa pb pc, rg_P qa qb qc, fc, cx, L, F, R1, R2, R3, GC, GO, W, H, SC, FR) (sl, wl, dl, st, fa, ri, si, so, ac, pa, pb, pc, qa, qb, qc, cx, fc, D, L, F, R1, R2, R3, GC, GO, W, FR, H, SC) := ⟨cx, rg_mk I⟩
  by_cases hs : st = 1
  · by_cases h1 : 1 ≤ v1
    · have h0 : ¬ v1 < 0 := fun z => absurd (Int32.lt_of_le_of_lt h1 z) (by decide)
      by_cases h2 : 256 ≤ v1
      · obtain ⟨r, c', u', v', hR, HX, HY⟩ := st_run 256 (by decide) 256 0 rfl cx 0 _ _ (rg_mk (cx := cx) (cy := cx) (st := st) (fa := fa) (ac := ac) (F := F) (R3 := R3) (GO := GO) (W := W) (SC := SC) I)
        unfold rg_lx at HX
        unfold rg_ly at HY
        exact br_t h2 ⟨257, HX _ 257 (by decide) (br_t hs (br_t h1 (br_t h2 ⟨257, HY _ 257 (by decide) (And.intro rfl ⟨c', hR⟩)⟩)))⟩
      · obtain ⟨m, hm, rfl⟩ := nI_of h0
        have hm2 : m < 256 := by
          apply Nat.lt_of_not_le
          intro z
          exact h2 (nI_le (a := 256) z hm)
        obtain ⟨r, c', u', v', hR, HX, HY⟩ := st_run m (by omega) m 0 (by omega) cx 0 _ _ (rg_mk (cx := cx) (cy := cx) (st := st) (fa := fa) (ac := ac) (F := F) (R3 := R3) (GO := GO) (W := W) (SC := SC) I)
        unfold rg_lx at HX
        unfold rg_ly at HY
        exact br_f h2 ⟨m + 1, HX _ (m + 1) (by omega) (br_t hs (br_t h1 (br_f h2 ⟨m + 1, HY _ (m + 1) (by omega) (And.intro rfl ⟨c', hR⟩)⟩)))⟩
    · have h2 : ¬ 256 ≤ v1 := fun z => h1 (Int32.le_trans (by decide) z)
      have h3 : v1 ≤ 0 := by
        rw [Int32.le_iff_toInt_le] at h1 ⊢
        rw [show (1 : Int32).toInt = 1 from by decide] at h1
        rw [show (0 : Int32).toInt = 0 from by decide]
        omega
      exact br_f h2 ⟨1, br_t h3 (br_t hs (br_f h1 (And.intro rfl I0)))⟩
  · by_cases h2 : 256 ≤ v1
    · exact br_t h2 ⟨1, br_f (by decide) (br_f hs (br_f hs (And.intro rfl I0)))⟩
    · by_cases h3 : v1 ≤ 0
      · exact br_f h2 ⟨1, br_t h3 (br_f hs (And.intro rfl I0))⟩
      · exact br_f h2 ⟨1, br_f h3 (br_f hs (br_f hs (And.intro rfl I0)))⟩
end
