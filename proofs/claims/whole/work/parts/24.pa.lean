theorem q_bm4 (x : Int) (h1 : -2147483648 ≤ x) (h2 : x < 2147483648) : x.bmod (2 ^ 32) = x := by
  rw [Int.bmod_def]; simp only [Nat.reducePow]; split <;> omega
theorem q_bm8 (x : Int) (h1 : -9223372036854775808 ≤ x) (h2 : x < 9223372036854775808) : x.bmod (2 ^ 64) = x := by
  rw [Int.bmod_def]; simp only [Nat.reducePow]; split <;> omega
theorem q_add4 (a b : Int32) (h1 : -2147483648 ≤ a.toInt + b.toInt) (h2 : a.toInt + b.toInt < 2147483648) : (a + b).toInt = a.toInt + b.toInt := by
  rw [Int32.toInt_add]; exact q_bm4 _ h1 h2
theorem q_sub4 (a b : Int32) (h1 : -2147483648 ≤ a.toInt - b.toInt) (h2 : a.toInt - b.toInt < 2147483648) : (a - b).toInt = a.toInt - b.toInt := by
  rw [Int32.toInt_sub]; exact q_bm4 _ h1 h2
theorem q_mul4 (a b : Int32) (h1 : -2147483648 ≤ a.toInt * b.toInt) (h2 : a.toInt * b.toInt < 2147483648) : (a * b).toInt = a.toInt * b.toInt := by
  rw [Int32.toInt_mul]; exact q_bm4 _ h1 h2
theorem q_add8 (a b : Int64) (h1 : -9223372036854775808 ≤ a.toInt + b.toInt) (h2 : a.toInt + b.toInt < 9223372036854775808) : (a + b).toInt = a.toInt + b.toInt := by
  rw [Int64.toInt_add]; exact q_bm8 _ h1 h2
theorem q_sub8 (a b : Int64) (h1 : -9223372036854775808 ≤ a.toInt - b.toInt) (h2 : a.toInt - b.toInt < 9223372036854775808) : (a - b).toInt = a.toInt - b.toInt := by
  rw [Int64.toInt_sub]; exact q_bm8 _ h1 h2
theorem q_mul8 (a b : Int64) (h1 : -9223372036854775808 ≤ a.toInt * b.toInt) (h2 : a.toInt * b.toInt < 9223372036854775808) : (a * b).toInt = a.toInt * b.toInt := by
  rw [Int64.toInt_mul]; exact q_bm8 _ h1 h2
theorem q_r4 (a : Int32) : -2147483648 ≤ a.toInt ∧ a.toInt < 2147483648 := ⟨Int32.le_toInt a, Int32.toInt_lt a⟩
theorem q_r8 (a : Int64) : -9223372036854775808 ≤ a.toInt ∧ a.toInt < 9223372036854775808 := ⟨Int64.le_toInt a, Int64.toInt_lt a⟩
theorem q_48 (a : Int32) : a.toInt64.toInt = a.toInt := Int32.toInt_toInt64 a
theorem q_84 (a : Int64) (h1 : -2147483648 ≤ a.toInt) (h2 : a.toInt < 2147483648) : a.toInt32.toInt = a.toInt := by
  rw [Int64.toInt_toInt32]; exact q_bm4 _ h1 h2
theorem q_le4 (a b : Int32) : a ≤ b ↔ a.toInt ≤ b.toInt := Int32.le_iff_toInt_le
theorem q_lt4 (a b : Int32) : a < b ↔ a.toInt < b.toInt := Int32.lt_iff_toInt_lt
theorem q_eq4 (a b : Int32) : a = b ↔ a.toInt = b.toInt := Int32.toInt_inj.symm
theorem q_le8 (a b : Int64) : a ≤ b ↔ a.toInt ≤ b.toInt := Int64.le_iff_toInt_le
theorem q_lt8 (a b : Int64) : a < b ↔ a.toInt < b.toInt := Int64.lt_iff_toInt_lt
theorem q_eq8 (a b : Int64) : a = b ↔ a.toInt = b.toInt := Int64.toInt_inj.symm
theorem q_div8 (a b : Int64) (h1 : 0 ≤ a.toInt) (h2 : 0 < b.toInt) : (a / b).toInt = a.toInt / b.toInt := by
  have ha := q_r8 a
  rw [Int64.toInt_div, Int.tdiv_eq_ediv_of_nonneg h1]
  refine q_bm8 _ ?_ ?_
  · have := Int.ediv_nonneg h1 (Int.le_of_lt h2); omega
  · have := Int.ediv_le_self b.toInt h1; omega
theorem q_div4 (a b : Int32) (h1 : 0 ≤ a.toInt) (h2 : 0 < b.toInt) : (a / b).toInt = a.toInt / b.toInt := by
  have ha := q_r4 a
  rw [Int32.toInt_div, Int.tdiv_eq_ediv_of_nonneg h1]
  refine q_bm4 _ ?_ ?_
  · have := Int.ediv_nonneg h1 (Int.le_of_lt h2); omega
  · have := Int.ediv_le_self b.toInt h1; omega
theorem q_rem8 (a b : Int64) (h1 : 0 ≤ a.toInt) (h2 : 0 < b.toInt) : (a - a / b * b).toInt = a.toInt % b.toInt := by
  have ha := q_r8 a
  have e := Int.emod_add_mul_ediv a.toInt b.toInt
  have hn := Int.emod_nonneg a.toInt (Int.ne_of_gt h2)
  have hd := q_div8 a b h1 h2
  have e2 : a.toInt / b.toInt * b.toInt = b.toInt * (a.toInt / b.toInt) := Int.mul_comm _ _
  have hp : 0 ≤ b.toInt * (a.toInt / b.toInt) := Int.mul_nonneg (Int.le_of_lt h2) (Int.ediv_nonneg h1 (Int.le_of_lt h2))
  have hm : (a / b * b).toInt = b.toInt * (a.toInt / b.toInt) := by
    rw [q_mul8, hd, e2] <;> rw [hd, e2] <;> omega
  rw [q_sub8 _ _ (by rw [hm]; omega) (by rw [hm]; omega), hm]; omega
theorem q_rem4 (a b : Int32) (h1 : 0 ≤ a.toInt) (h2 : 0 < b.toInt) : (a - a / b * b).toInt = a.toInt % b.toInt := by
  have ha := q_r4 a
  have e := Int.emod_add_mul_ediv a.toInt b.toInt
  have hn := Int.emod_nonneg a.toInt (Int.ne_of_gt h2)
  have hd := q_div4 a b h1 h2
  have e2 : a.toInt / b.toInt * b.toInt = b.toInt * (a.toInt / b.toInt) := Int.mul_comm _ _
  have hp : 0 ≤ b.toInt * (a.toInt / b.toInt) := Int.mul_nonneg (Int.le_of_lt h2) (Int.ediv_nonneg h1 (Int.le_of_lt h2))
  have hm : (a / b * b).toInt = b.toInt * (a.toInt / b.toInt) := by
    rw [q_mul4, hd, e2] <;> rw [hd, e2] <;> omega
  rw [q_sub4 _ _ (by rw [hm]; omega) (by rw [hm]; omega), hm]; omega
theorem q_toNat8 (a : Int64) (h : 0 ≤ a.toInt) : (a.toBitVec.toNat : Int) = a.toInt := by
  have e : a.toInt = a.toBitVec.toInt := rfl
  have := a.toBitVec.isLt
  rw [e] at h ⊢
  rw [BitVec.toInt_eq_toNat_cond] at h ⊢
  split at h <;> rename_i c
  · rw [if_pos c]
  · omega
theorem q_ofNat8 (a : Int64) (n : Nat) (h : a.toBitVec.toNat = n) (hn : n < 9223372036854775808) : a.toInt = (n : Int) := by
  have e : a.toInt = a.toBitVec.toInt := rfl
  rw [e, BitVec.toInt_eq_toNat_cond, h, if_pos (by omega)]
theorem q_toNatm (a : Int64) : (a.toBitVec.toNat : Int) = a.toInt % 18446744073709551616 := by
  have e : a.toInt = a.toBitVec.toInt := rfl
  have := a.toBitVec.isLt
  rw [e, BitVec.toInt_eq_toNat_cond]
  split <;> omega
theorem q_and8 (a b : Int64) (k : Nat) (hb : b.toInt = 2 ^ k - 1) (hk : k ≤ 62) : (a &&& b).toInt = a.toInt % 2 ^ k := by
  have h0 : 1 ≤ (2 : Int) ^ k := Int.pow_pos (by omega)
  have na := q_toNatm a
  have nb := q_toNat8 b (by omega)
  have e : (b.toBitVec.toNat) = 2 ^ k - 1 := by
    have : ((2 ^ k : Nat) : Int) = 2 ^ k := by push_cast; rfl
    have : 1 ≤ 2 ^ k := Nat.pow_pos (by omega)
    omega
  have hl := q_r8 a
  have hkk : 2 ^ k ≤ 2 ^ 62 := Nat.pow_le_pow_right (by omega) hk
  have hp : 0 < 2 ^ k := Nat.pow_pos (by omega)
  have hm := Nat.mod_lt a.toBitVec.toNat hp
  rw [q_ofNat8 (a &&& b) (a.toBitVec.toNat % 2 ^ k)]
  · push_cast
    rw [na]
    refine Int.emod_emod_of_dvd a.toInt ⟨2 ^ (64 - k), ?_⟩
    rw [← Int.pow_add]
    have : k + (64 - k) = 64 := by omega
    rw [this]; rfl
  · rw [Int64.toBitVec_and, BitVec.toNat_and, e, Nat.and_two_pow_sub_one_eq_mod]
  · omega
theorem q_shr8 (a s : Int64) (k : Nat) (hk : (s.toBitVec.smod 64).toNat = k) : (a >>> s).toInt = a.toInt / 2 ^ k := by
  have e : ∀ x : Int64, x.toInt = x.toBitVec.toInt := fun _ => rfl
  rw [e, e, Int64.toBitVec_shiftRight, BitVec.sshiftRight_eq', hk, BitVec.toInt_sshiftRight, Int.shiftRight_eq_div_pow]
  push_cast; rfl
theorem q_shl8 (a s : Int64) (k : Nat) (hk : (s.toBitVec.smod 64).toNat = k) (h1 : -9223372036854775808 ≤ a.toInt * 2 ^ k) (h2 : a.toInt * 2 ^ k < 9223372036854775808) : (a <<< s).toInt = a.toInt * 2 ^ k := by
  have e : ∀ x : Int64, x.toInt = x.toBitVec.toInt := fun _ => rfl
  rw [e, Int64.toBitVec_shiftLeft, BitVec.shiftLeft_eq', hk, BitVec.toInt_shiftLeft, Nat.shiftLeft_eq]
  have hh : ((a.toBitVec.toNat * 2 ^ k : Nat) : Int).bmod (2 ^ 64) = (a.toInt * 2 ^ k).bmod (2 ^ 64) := by
    rw [e, BitVec.toInt_eq_toNat_bmod]
    push_cast
    rw [Int.bmod_mul_bmod]
  rw [hh]; exact q_bm8 _ h1 h2
theorem q_s31 : (((31 : Int32).toInt64 &&& 63 : Int64).toBitVec.smod 64).toNat = 31 := by decide
theorem q_s30 : (((30 : Int32).toInt64 &&& 63 : Int64).toBitVec.smod 64).toNat = 30 := by decide
theorem q_s16 : (((16 : Int32).toInt64 &&& 63 : Int64).toBitVec.smod 64).toNat = 16 := by decide
theorem q_s1 : (((1 : Int32).toInt64 &&& 63 : Int64).toBitVec.smod 64).toNat = 1 := by decide
theorem q_shr31 (a : Int64) : (a >>> ((31 : Int32).toInt64 &&& 63)).toInt = a.toInt / 2147483648 := q_shr8 a _ 31 q_s31
theorem q_shr16 (a : Int64) : (a >>> ((16 : Int32).toInt64 &&& 63)).toInt = a.toInt / 65536 := q_shr8 a _ 16 q_s16
theorem q_shr1 (a : Int64) : (a >>> ((1 : Int32).toInt64 &&& 63)).toInt = a.toInt / 2 := q_shr8 a _ 1 q_s1
theorem q_and31 (a : Int64) : (a &&& 2147483647).toInt = a.toInt % 2147483648 := q_and8 a _ 31 (by decide) (by decide)
theorem q_and16 (a : Int64) : (a &&& 65535).toInt = a.toInt % 65536 := q_and8 a _ 16 (by decide) (by decide)
theorem q_and1 (a : Int64) : (a &&& 1).toInt = a.toInt % 2 := q_and8 a _ 1 (by decide) (by decide)
theorem q_ix (i : Int32) (k : Nat) (h : i.toInt = k) : i.toNatClampNeg = k := by
  rw [Int32.toNatClampNeg, h]; rfl
theorem q_or8 (a b : Int64) (k : Nat) (m : Int) (hm : 0 ≤ m) (ha : a.toInt = 2 ^ k * m) (hb : 0 ≤ b.toInt) (hb2 : b.toInt < 2 ^ k)
    (hs : a.toInt + b.toInt < 9223372036854775808) : (a ||| b).toInt = a.toInt + b.toInt := by
  have h0 : (0 : Int) ≤ 2 ^ k := Int.le_of_lt (Int.pow_pos (by omega))
  have ha0 : 0 ≤ a.toInt := by rw [ha]; exact Int.mul_nonneg h0 hm
  have na := q_toNat8 a ha0
  have nb := q_toNat8 b hb
  obtain ⟨m', rfl⟩ := Int.eq_ofNat_of_zero_le hm
  have e : a.toBitVec.toNat = 2 ^ k * m' := by
    have : ((2 ^ k * m' : Nat) : Int) = 2 ^ k * m' := by push_cast; rfl
    omega
  have eb : b.toBitVec.toNat < 2 ^ k := by
    have : ((2 ^ k : Nat) : Int) = 2 ^ k := by push_cast; rfl
    omega
  rw [q_ofNat8 (a ||| b) (a.toBitVec.toNat + b.toBitVec.toNat)]
  · omega
  · rw [Int64.toBitVec_or, BitVec.toNat_or, e]
    exact (Nat.two_pow_add_eq_or_of_lt eb m').symm
  · omega
theorem q_in (i : Int32) (n : Nat) (h1 : 0 ≤ i.toInt) (h2 : i.toInt < n) : vp_in i n := by
  unfold vp_in
  intro h
  rcases h with h | h
  · rw [q_lt4] at h
    have : (0 : Int32).toInt = 0 := by decide
    omega
  · rw [q_ix i i.toInt.toNat (by omega)] at h; omega
theorem q_nI (i : Int32) (h : 0 ≤ i.toInt) : ∃ k : Nat, i.toInt = k := Int.eq_ofNat_of_zero_le h
theorem z4_0 : (0 : Int32).toInt = 0 := by decide
theorem z4_1 : (1 : Int32).toInt = 1 := by decide
theorem z4_m1 : (-1 : Int32).toInt = -1 := by decide
theorem z4_64 : (64 : Int32).toInt = 64 := by decide
theorem z8_0 : (0 : Int64).toInt = 0 := by decide
theorem upd_e (f : Nat → Int32) (k : Nat) (x : Int32) : upd f k x k = x := by unfold upd; rw [if_pos rfl]
theorem upd_n (f : Nat → Int32) (k j : Nat) (x : Int32) (h : j ≠ k) : upd f k x j = f j := by unfold upd; rw [if_neg h]
theorem updL_e (f : Nat → Int64) (k : Nat) (x : Int64) : vp_updL f k x k = x := by unfold vp_updL; rw [if_pos rfl]
theorem updL_n (f : Nat → Int64) (k j : Nat) (x : Int64) (h : j ≠ k) : vp_updL f k x j = f j := by unfold vp_updL; rw [if_neg h]
theorem q_inc (i : Int32) (j : Nat) (h : i.toInt = j) (hj : j < 2147483647) : (i + 1).toInt = ((j + 1 : Nat) : Int) := by
  rw [q_add4 _ _ (by rw [h, z4_1]; omega) (by rw [h, z4_1]; omega), h, z4_1]; omega
theorem q_dec (i : Int32) (j : Nat) (h : i.toInt = j) (hj : j < 2147483647) : (i - 1).toInt = (j : Int) - 1 := by
  rw [q_sub4 _ _ (by rw [h, z4_1]; omega) (by rw [h, z4_1]; omega), h, z4_1]
theorem q_decm (i : Int32) (j : Nat) (h : i.toInt = j) (hj : j < 2147483647) : (i + (-1)).toInt = (j : Int) - 1 := by
  rw [q_add4 _ _ (by rw [h, z4_m1]; omega) (by rw [h, z4_m1]; omega), h, z4_m1]; omega
theorem v_add4 {a b : Int32} {x y : Int} (ha : a.toInt = x) (hb : b.toInt = y) (h1 : -2147483648 ≤ x + y) (h2 : x + y < 2147483648) : (a + b).toInt = x + y := by
  subst ha; subst hb; exact q_add4 a b h1 h2
theorem v_sub4 {a b : Int32} {x y : Int} (ha : a.toInt = x) (hb : b.toInt = y) (h1 : -2147483648 ≤ x - y) (h2 : x - y < 2147483648) : (a - b).toInt = x - y := by
  subst ha; subst hb; exact q_sub4 a b h1 h2
theorem v_mul4 {a b : Int32} {x y : Int} (ha : a.toInt = x) (hb : b.toInt = y) (h1 : -2147483648 ≤ x * y) (h2 : x * y < 2147483648) : (a * b).toInt = x * y := by
  subst ha; subst hb; exact q_mul4 a b h1 h2
theorem v_div4 {a b : Int32} {x y : Int} (ha : a.toInt = x) (hb : b.toInt = y) (h1 : 0 ≤ x) (h2 : 0 < y) : (a / b).toInt = x / y := by
  subst ha; subst hb; exact q_div4 a b h1 h2
theorem v_rem4 {a b : Int32} {x y : Int} (ha : a.toInt = x) (hb : b.toInt = y) (h1 : 0 ≤ x) (h2 : 0 < y) : (a - a / b * b).toInt = x % y := by
  subst ha; subst hb; exact q_rem4 a b h1 h2
theorem v_add8 {a b : Int64} {x y : Int} (ha : a.toInt = x) (hb : b.toInt = y) (h1 : -9223372036854775808 ≤ x + y) (h2 : x + y < 9223372036854775808) : (a + b).toInt = x + y := by
  subst ha; subst hb; exact q_add8 a b h1 h2
theorem v_sub8 {a b : Int64} {x y : Int} (ha : a.toInt = x) (hb : b.toInt = y) (h1 : -9223372036854775808 ≤ x - y) (h2 : x - y < 9223372036854775808) : (a - b).toInt = x - y := by
  subst ha; subst hb; exact q_sub8 a b h1 h2
theorem v_mul8 {a b : Int64} {x y : Int} (ha : a.toInt = x) (hb : b.toInt = y) (h1 : -9223372036854775808 ≤ x * y) (h2 : x * y < 9223372036854775808) : (a * b).toInt = x * y := by
  subst ha; subst hb; exact q_mul8 a b h1 h2
theorem v_div8 {a b : Int64} {x y : Int} (ha : a.toInt = x) (hb : b.toInt = y) (h1 : 0 ≤ x) (h2 : 0 < y) : (a / b).toInt = x / y := by
  subst ha; subst hb; exact q_div8 a b h1 h2
theorem v_rem8 {a b : Int64} {x y : Int} (ha : a.toInt = x) (hb : b.toInt = y) (h1 : 0 ≤ x) (h2 : 0 < y) : (a - a / b * b).toInt = x % y := by
  subst ha; subst hb; exact q_rem8 a b h1 h2
theorem v_48 {a : Int32} {x : Int} (h : a.toInt = x) : a.toInt64.toInt = x := by rw [q_48, h]
theorem v_84 {a : Int64} {x : Int} (h : a.toInt = x) (h1 : -2147483648 ≤ x) (h2 : x < 2147483648) : a.toInt32.toInt = x := by subst h; exact q_84 a h1 h2
theorem dPp (B : Int) (hB : 0 < B) (j : Nat) : 0 < B ^ j := Int.pow_pos hB
theorem dPs (B : Int) (j : Nat) : B ^ (j + 1) = B ^ j * B := Int.pow_succ B j
def dd (B v : Int) (i : Nat) : Int := v / B ^ i % B
theorem dd_nn (B : Int) (hB : 0 < B) (v : Int) (i : Nat) : 0 ≤ dd B v i := Int.emod_nonneg _ (Int.ne_of_gt hB)
theorem dd_lt (B : Int) (hB : 0 < B) (v : Int) (i : Nat) : dd B v i < B := Int.emod_lt_of_pos _ hB
theorem dm_s (B : Int) (hB : 0 < B) (x : Int) (j : Nat) : x % B ^ (j + 1) = x % B ^ j + B ^ j * dd B x j := by
  have hp := dPp B hB j
  have h1 := Int.emod_add_mul_ediv x (B ^ j)
  have h2 := Int.emod_add_mul_ediv (x / B ^ j) B
  have h3 := Int.emod_add_mul_ediv x (B ^ (j + 1))
  have h4 : x / B ^ j / B = x / B ^ (j + 1) := by rw [dPs, Int.ediv_ediv_of_nonneg (Int.le_of_lt hp)]
  rw [h4] at h2
  unfold dd
  rw [dPs] at h3 ⊢
  have h5 : B ^ j * (x / B ^ j) = B ^ j * (x / B ^ j % B) + B ^ j * B * (x / (B ^ j * B)) := by
    have := congrArg (B ^ j * ·) h2
    simp only [Int.mul_add] at this
    rw [dPs] at this
    rw [Int.mul_assoc (B ^ j) B]
    exact this.symm
  omega
theorem dd_0 (B : Int) (i : Nat) : dd B 0 i = 0 := by unfold dd; simp
theorem dd_big (B : Int) (v : Int) (i : Nat) (h0 : 0 ≤ v) (h : v < B ^ i) : dd B v i = 0 := by
  unfold dd; rw [Int.ediv_eq_zero_of_lt h0 h]; rfl
theorem dd_cong (B : Int) (hB : 0 < B) (x y : Int) (j : Nat) (h : x % B ^ (j + 1) = y % B ^ (j + 1)) : dd B x j = dd B y j := by
  have hp := dPp B hB j
  have key : ∀ z : Int, dd B z j = z % B ^ (j + 1) / B ^ j := by
    intro z
    rw [dm_s B hB, Int.add_mul_ediv_left _ _ (Int.ne_of_gt hp), Int.ediv_eq_zero_of_lt (Int.emod_nonneg _ (Int.ne_of_gt hp)) (Int.emod_lt_of_pos _ hp)]
    omega
  rw [key, key, h]
def dc (B x y a b c : Int) (j : Nat) : Int := (x % B ^ j * a + y % B ^ j * b + c) / B ^ j
theorem dc_0 (B x y a b c : Int) : dc B x y a b c 0 = c := by
  unfold dc; simp [Int.emod_one]
theorem dc_t (B : Int) (hB : 0 < B) (x y a b c : Int) (j : Nat) :
    dd B x j * a + dd B y j * b + dc B x y a b c j = (x % B ^ (j + 1) * a + y % B ^ (j + 1) * b + c) / B ^ j := by
  have hp := dPp B hB j
  rw [dm_s B hB x, dm_s B hB y]
  have e : (x % B ^ j + B ^ j * dd B x j) * a + (y % B ^ j + B ^ j * dd B y j) * b + c
      = (x % B ^ j * a + y % B ^ j * b + c) + B ^ j * (dd B x j * a + dd B y j * b) := by
    grind
  rw [e, Int.add_mul_ediv_left _ _ (Int.ne_of_gt hp)]
  unfold dc; omega
theorem dc_s (B : Int) (hB : 0 < B) (x y a b c : Int) (j : Nat) :
    (dd B x j * a + dd B y j * b + dc B x y a b c j) / B = dc B x y a b c (j + 1) := by
  rw [dc_t B hB]; unfold dc
  rw [dPs, Int.ediv_ediv_of_nonneg (Int.le_of_lt (dPp B hB j))]
theorem dc_d (B : Int) (hB : 0 < B) (x y a b c : Int) (j : Nat) :
    (dd B x j * a + dd B y j * b + dc B x y a b c j) % B = dd B (x * a + y * b + c) j := by
  rw [dc_t B hB]
  have : (x % B ^ (j + 1) * a + y % B ^ (j + 1) * b + c) / B ^ j % B = dd B (x % B ^ (j + 1) * a + y % B ^ (j + 1) * b + c) j := rfl
  rw [this]
  apply dd_cong B hB
  have e : x % B ^ (j + 1) * a + y % B ^ (j + 1) * b + c = (x * a + y * b + c) + B ^ (j + 1) * (-(x / B ^ (j + 1)) * a - (y / B ^ (j + 1)) * b) := by
    have h1 := Int.emod_add_mul_ediv x (B ^ (j + 1))
    have h2 := Int.emod_add_mul_ediv y (B ^ (j + 1))
    grind
  rw [e, Int.add_mul_emod_self_left]
theorem dc_end (B x y a b c : Int) (k : Nat) (hx : 0 ≤ x) (hx2 : x < B ^ k) (hy : 0 ≤ y) (hy2 : y < B ^ k) :
    dc B x y a b c k = (x * a + y * b + c) / B ^ k := by
  unfold dc; rw [Int.emod_eq_of_lt hx hx2, Int.emod_eq_of_lt hy hy2]
theorem dc_nn (B : Int) (hB : 0 < B) (x y a b c : Int) (j : Nat) (ha : 0 ≤ a) (hb : 0 ≤ b) (hc : 0 ≤ c) : 0 ≤ dc B x y a b c j := by
  have hp := dPp B hB j
  unfold dc
  refine Int.ediv_nonneg ?_ (Int.le_of_lt hp)
  have h1 := Int.mul_nonneg (Int.emod_nonneg x (Int.ne_of_gt hp)) ha
  have h2 := Int.mul_nonneg (Int.emod_nonneg y (Int.ne_of_gt hp)) hb
  omega
theorem dab (x p a M : Int) (h0 : 0 ≤ x) (h1 : x ≤ p) (ha : -M ≤ a) (hb : a ≤ M) (hM : 0 ≤ M) : -(p * M) ≤ x * a ∧ x * a ≤ p * M := by
  have h2 := Int.mul_le_mul_of_nonneg_left ha h0
  have h3 := Int.mul_le_mul_of_nonneg_left hb h0
  have h4 := Int.mul_le_mul_of_nonneg_right h1 hM
  rw [Int.mul_neg] at h2
  omega
theorem dc_b (B : Int) (hB : 0 < B) (x y a b c M N : Int) (j : Nat) (ha : -M ≤ a) (ha2 : a ≤ M) (hb : -N ≤ b) (hb2 : b ≤ N) (hM : 0 ≤ M) (hN : 0 ≤ N)
    (hc : -(M + N) ≤ c) (hc2 : c ≤ M + N) : -(M + N) ≤ dc B x y a b c j ∧ dc B x y a b c j ≤ M + N := by
  have hp := dPp B hB j
  have x0 := Int.emod_nonneg x (Int.ne_of_gt hp)
  have x1 := Int.emod_lt_of_pos x hp
  have y0 := Int.emod_nonneg y (Int.ne_of_gt hp)
  have y1 := Int.emod_lt_of_pos y hp
  have h1 := dab (x % B ^ j) (B ^ j - 1) a M x0 (by omega) ha ha2 hM
  have h2 := dab (y % B ^ j) (B ^ j - 1) b N y0 (by omega) hb hb2 hN
  rw [Int.sub_mul] at h1 h2
  unfold dc
  have e : B ^ j * M + B ^ j * N = B ^ j * (M + N) := (Int.mul_add _ _ _).symm
  constructor
  · apply Int.le_ediv_of_mul_le hp
    rw [Int.neg_mul, Int.mul_comm]; omega
  · apply Int.le_of_lt_add_one
    apply Int.ediv_lt_of_lt_mul hp
    rw [Int.mul_comm (M + N + 1), Int.mul_add]; omega
def dR (B : Int) (f : Nat → Int) (k : Nat) (v : Int) : Prop := 0 ≤ v ∧ v < B ^ k ∧ ∀ i, i < k → f i = dd B v i
def dT (B : Int) (k : Nat) (v : Int) : Prop := k = 0 ∨ B ^ (k - 1) ≤ v
theorem dd_top (B : Int) (hB : 0 < B) (v : Int) (k : Nat) (h0 : 0 ≤ v) (h : v < B ^ (k + 1)) : dd B v k = v / B ^ k := by
  have hp := dPp B hB k
  unfold dd
  refine Int.emod_eq_of_lt (Int.ediv_nonneg h0 (Int.le_of_lt hp)) ?_
  apply Int.ediv_lt_of_lt_mul hp
  rw [dPs, Int.mul_comm] at h; exact h
theorem dR_down (B : Int) (hB : 0 < B) (f : Nat → Int) (k : Nat) (v : Int) (h : dR B f (k + 1) v) (h0 : f k = 0) : dR B f k v := by
  obtain ⟨a, b, c⟩ := h
  have hp := dPp B hB k
  refine ⟨a, ?_, fun i hi => c i (by omega)⟩
  have e := c k (by omega)
  rw [h0, dd_top B hB v k a b] at e
  exact Int.lt_of_not_ge (fun hc => by
    have := Int.le_ediv_of_mul_le hp (show 1 * B ^ k ≤ v by omega)
    omega)
theorem dR_tight (B : Int) (hB : 0 < B) (f : Nat → Int) (k : Nat) (v : Int) (h : dR B f (k + 1) v) (h0 : f k ≠ 0) : dT B (k + 1) v := by
  obtain ⟨a, b, c⟩ := h
  right
  have e := c k (by omega)
  have hp := dPp B hB k
  rw [dd_top B hB v k a b] at e
  simp only [Nat.add_sub_cancel]
  exact Int.le_of_not_gt (fun hc => h0 (by rw [e]; exact Int.ediv_eq_zero_of_lt a hc))
theorem dR_carry0 (B : Int) (hB : 0 < B) (f : Nat → Int) (k : Nat) (w : Int) (h0 : 0 ≤ w) (hc : w / B ^ k ≤ 0) (hd : ∀ i, i < k → f i = dd B w i) : dR B f k w := by
  have hp := dPp B hB k
  refine ⟨h0, ?_, hd⟩
  exact Int.lt_of_not_ge (fun hh => by
    have := Int.le_ediv_of_mul_le hp (show 1 * B ^ k ≤ w by omega)
    omega)
theorem dR_carry1 (B : Int) (hB : 0 < B) (f : Nat → Int) (k : Nat) (w : Int) (h0 : 0 ≤ w) (hw : w < B ^ (k + 1)) (hd : ∀ i, i < k → f i = dd B w i) (hk : f k = w / B ^ k) : dR B f (k + 1) w := by
  refine ⟨h0, hw, fun i hi => ?_⟩
  by_cases c : i = k
  · subst c; rw [hk, dd_top B hB w i h0 hw]
  · exact hd i (by omega)
theorem dR_same (B : Int) (f g : Nat → Int) (k : Nat) (v : Int) (h : dR B f k v) (e : ∀ i, i < k → g i = f i) : dR B g k v :=
  ⟨h.1, h.2.1, fun i hi => by rw [e i hi]; exact h.2.2 i hi⟩
theorem dP_mono (B : Int) (hB : 1 < B) (i j : Nat) (h : i ≤ j) : B ^ i ≤ B ^ j := by
  obtain ⟨d, rfl⟩ := Nat.exists_eq_add_of_le h
  rw [Int.pow_add]
  have h1 := dPp B (by omega) i
  have h2 := dPp B (by omega) d
  have := Int.mul_le_mul_of_nonneg_left (show 1 ≤ B ^ d by omega) (Int.le_of_lt h1)
  omega
theorem dT_le (B : Int) (hB : 1 < B) (k m : Nat) (v : Int) (h : dT B k v) (hv : v < B ^ m) : k ≤ m := by
  rcases h with h | h
  · omega
  · apply Nat.le_of_not_gt; intro hc
    have := dP_mono B hB m (k - 1) (by omega)
    omega
theorem dT_uniq (B : Int) (hB : 1 < B) (k k' : Nat) (v : Int) (h : dT B k v) (hv : v < B ^ k) (h' : dT B k' v) (hv' : v < B ^ k') : k = k' :=
  Nat.le_antisymm (dT_le B hB k k' v h hv') (dT_le B hB k' k v h' hv)
theorem dd_step (B : Int) (hB : 0 < B) (v : Int) (j : Nat) : v / B ^ j = v / B ^ (j + 1) * B + dd B v j := by
  have h2 := Int.emod_add_mul_ediv (v / B ^ j) B
  have h4 : v / B ^ j / B = v / B ^ (j + 1) := by rw [dPs, Int.ediv_ediv_of_nonneg (Int.le_of_lt (dPp B hB j))]
  rw [h4] at h2
  unfold dd
  rw [Int.mul_comm]; omega
theorem dv_step (B : Int) (hB : 0 < B) (v d : Int) (hd : 0 < d) (j : Nat) :
    (v / B ^ (j + 1) % d * B + dd B v j) / d = dd B (v / d) j ∧ (v / B ^ (j + 1) % d * B + dd B v j) % d = v / B ^ j % d := by
  have e := dd_step B hB v j
  have n1 := dd_nn B hB v j
  have n2 := dd_lt B hB v j
  have m0 := Int.emod_nonneg (v / B ^ (j + 1)) (Int.ne_of_gt hd)
  have m1 := Int.emod_lt_of_pos (v / B ^ (j + 1)) hd
  have m2 := Int.emod_add_mul_ediv (v / B ^ (j + 1)) d
  have t0 := Int.mul_nonneg m0 (Int.le_of_lt hB)
  have e2 : v / B ^ j = (v / B ^ (j + 1) % d * B + dd B v j) + d * (v / B ^ (j + 1) / d * B) := by
    rw [e]
    have := congrArg (· * B) m2
    simp only [Int.add_mul] at this
    rw [Int.mul_assoc] at this
    omega
  generalize hg : v / B ^ (j + 1) % d * B + dd B v j = t at *
  constructor
  · have e3 : v / d / B ^ j = t / d + v / B ^ (j + 1) / d * B := by
      rw [Int.ediv_ediv_of_nonneg (Int.le_of_lt hd), Int.mul_comm d, ← Int.ediv_ediv_of_nonneg (Int.le_of_lt (dPp B hB j)), e2,
        Int.add_mul_ediv_left _ _ (Int.ne_of_gt hd)]
    unfold dd
    rw [e3, Int.add_mul_emod_self_right]
    symm
    refine Int.emod_eq_of_lt (Int.ediv_nonneg (by omega) (Int.le_of_lt hd)) ?_
    apply Int.ediv_lt_of_lt_mul hd
    have := Int.mul_le_mul_of_nonneg_right (show v / B ^ (j + 1) % d ≤ d - 1 by omega) (Int.le_of_lt hB)
    rw [Int.sub_mul] at this
    rw [Int.mul_comm B]; omega
  · rw [e2, Int.add_mul_emod_self_left]
def vL (l : Nat → Int32) (i : Nat) : Int := (l i).toInt
def rU (l : Nat → Int32) (n : Int32) (v : Int) : Prop := ∃ k : Nat, k ≤ 64 ∧ n.toInt = k ∧ dR 2147483648 (vL l) k v
def rN (l : Nat → Int32) (n : Int32) (v : Int) : Prop := ∃ k : Nat, k ≤ 64 ∧ n.toInt = k ∧ dR 2147483648 (vL l) k v ∧ dT 2147483648 k v
theorem s_limbAt (l : Nat → Int32) (n i : Int32) (k j : Nat) (v : Int) (Q : Int32 → Prop) (hk : k ≤ 64) (hn : n.toInt = k) (hi : i.toInt = j)
    (h0 : 0 ≤ v) (hv : v < 2147483648 ^ k) (hd : j < k → (l j).toInt = dd 2147483648 v j) (hQ : ∀ r : Int32, r.toInt = dd 2147483648 v j → Q r) : w_X1_limbAt l n i Q := by
  unfold w_X1_limbAt
  have big : k ≤ j → dd 2147483648 v j = 0 := fun c => dd_big _ v j h0 (Int.lt_of_lt_of_le hv (dP_mono _ (by decide) k j c))
  refine ⟨fun c => ?_, fun c => ⟨fun c2 => ?_, fun c2 => ⟨fun c3 => ?_, fun c3 => ⟨?_, ?_⟩⟩⟩⟩
  · rw [q_lt4, z4_0, hi] at c; omega
  · rw [q_le4, hn, hi] at c2; exact hQ 0 (by rw [big (by omega), z4_0])
  · rw [q_le4, hn, hi] at c2; rw [q_le4, z4_64, hi] at c3; omega
  · rw [q_le4, z4_64, hi] at c3; exact q_in i 64 (by omega) (by omega)
  · rw [q_le4, hn, hi] at c2; rw [q_ix i j hi]; exact hQ _ (hd (by omega))
theorem s_trim (l : Nat → Int32) (n : Int32) (v : Int) (Q : Int32 → Prop) (h : rU l n v) (hQ : ∀ n' : Int32, rN l n' v → Q n') : w_X1_trim l n Q := by
  unfold w_X1_trim
  refine ⟨fun n1 => rU l n1 v, fun n1 => n1.toInt.toNat, h, ?_⟩
  rintro n1 ⟨k, hk, hn, hr⟩
  refine ⟨fun c => ?_, fun c => ?_⟩
  · rw [q_le4, z4_0, hn] at c
    have : k = 0 := by omega
    subst this
    exact hQ _ ⟨0, hk, hn, hr, Or.inl rfl⟩
  · rw [q_le4, z4_0, hn] at c
    obtain ⟨m, rfl⟩ : ∃ m, k = m + 1 := ⟨k - 1, by omega⟩
    have e1 : (n1 - 1).toInt = (m : Int) := by rw [q_dec n1 (m + 1) hn (by omega)]; omega
    refine s_limbAt l n1 _ (m + 1) m v _ hk hn e1 hr.1 hr.2.1 (hr.2.2 m) ?_
    intro r hr2
    have e2 : vL l m = r.toInt := by rw [hr2]; exact hr.2.2 m (by omega)
    refine ⟨fun c2 => ?_, fun c2 => ?_⟩
    · exact hQ _ ⟨m + 1, hk, hn, hr, dR_tight _ (by decide) (vL l) m v hr (by rw [e2]; intro e; exact c2 (by rw [q_eq4, e, z4_0]))⟩
    · intro n4 hn4; subst hn4
      rw [q_eq4, z4_0] at c2
      exact ⟨⟨m, by omega, e1, dR_down _ (by decide) _ m v hr (by rw [e2, c2])⟩, by show (n1 - 1).toInt.toNat < n1.toInt.toNat; rw [e1, hn]; omega⟩
theorem s_append (l : Nat → Int32) (n : Int32) (c : Int64) (k : Nat) (w : Int) (Q : (Nat → Int32) → Int32 → Prop) (hk : k ≤ 64) (hn : n.toInt = k)
    (h0 : 0 ≤ w) (hw : w < 2147483648 ^ 64) (hw2 : w < 2147483648 ^ (k + 1)) (hc : c.toInt = w / 2147483648 ^ k) (hd : ∀ i, i < k → vL l i = dd 2147483648 w i)
    (hQ : ∀ l' n', rU l' n' w → Q l' n') : w_X1_append l n c Q := by
  unfold w_X1_append
  have hB : (0 : Int) < 2147483648 := by decide
  have hp := dPp 2147483648 hB k
  refine ⟨fun a => ?_, fun a => ⟨fun a2 => ?_, fun a2 => ⟨fun a3 => ?_, fun a3 => ⟨?_, ?_⟩⟩⟩⟩
  · rw [q_le8, z8_0, hc] at a
    exact hQ _ _ ⟨k, hk, hn, dR_carry0 _ hB _ k w h0 a hd⟩
  · rw [q_lt4, z4_0, hn] at a2; omega
  · rw [q_le4, z4_64, hn] at a3
    have : k = 64 := by omega
    subst this
    rw [q_le8, z8_0, hc] at a
    exact absurd (Int.le_of_eq (Int.ediv_eq_zero_of_lt h0 hw)) a
  · rw [q_le4, z4_64, hn] at a3; exact q_in n 64 (by omega) (by omega)
  · rw [q_le4, z4_64, hn] at a3
    intro l1 e1 n2 e2
    subst e1; subst e2
    have b1 : w / 2147483648 ^ k < 2147483648 := by
      apply Int.ediv_lt_of_lt_mul hp; rw [Int.mul_comm, ← dPs]; exact hw2
    have b0 := Int.ediv_nonneg h0 (Int.le_of_lt hp)
    refine hQ _ _ ⟨k + 1, by omega, ?_, ?_⟩
    · exact q_inc n k hn (by omega)
    · rw [q_ix n k hn]
      refine dR_carry1 _ hB _ k w h0 hw2 (fun i hi => ?_) ?_
      · unfold vL; rw [upd_n _ _ _ _ (by omega)]; exact hd i hi
      · unfold vL; rw [upd_e, q_84 _ (by omega) (by omega), hc]
theorem s_become (l : Nat → Int32) (n p : Int32) (v : Int) (Q : (Nat → Int32) → Int32 → Prop) (hp : p.toInt = v) (h0 : 0 ≤ v) (hQ : ∀ l' n', rN l' n' v → Q l' n') : w_X1_become l n p Q := by
  unfold w_X1_become w_X1_append
  have hr := q_r4 p
  have e1 : (2147483648 : Int) ^ 1 = 2147483648 := by decide
  refine ⟨fun a => ?_, fun a => ⟨fun a2 => absurd a2 (by decide), fun a2 => ⟨fun a3 => absurd a3 (by decide), fun a3 => ⟨by unfold vp_in; decide, ?_⟩⟩⟩⟩
  · rw [q_le8, z8_0, q_48, hp] at a
    have : v = 0 := by omega
    subst this
    exact hQ _ _ ⟨0, by omega, by decide, ⟨by omega, by decide, fun i hi => absurd hi (by omega)⟩, Or.inl rfl⟩
  · intro l1 el n1 en
    subst el; subst en
    rw [q_le8, z8_0, q_48, hp] at a
    refine hQ _ _ ⟨1, by omega, by decide, ⟨h0, by rw [e1]; omega, ?_⟩, Or.inr (by simp; omega)⟩
    intro i hi
    have : i = 0 := by omega
    subst this
    unfold vL
    rw [q_ix 0 0 (by decide), upd_e, q_84 _ (by rw [q_48]; omega) (by rw [q_48]; omega), q_48, hp]
    unfold dd
    simp only [Int.pow_zero, Int.ediv_one]
    rw [Int.emod_eq_of_lt h0 (by omega)]
theorem B31 : (0 : Int) < 2147483648 := by decide
theorem vL_e (l : Nat → Int32) (k : Nat) (x : Int32) : vL (upd l k x) k = x.toInt := by unfold vL; rw [upd_e]
theorem vL_n (l : Nat → Int32) (k j : Nat) (x : Int32) (h : j ≠ k) : vL (upd l k x) j = vL l j := by unfold vL; rw [upd_n _ _ _ _ h]
theorem q_dig (x : Int64) (d : Int) (h : x.toInt % 2147483648 = d) : ((x &&& 2147483647).toInt32).toInt = d := by
  rw [q_84 _ (by rw [q_and31]; omega) (by rw [q_and31]; omega), q_and31, h]
theorem s_times (l : Nat → Int32) (n p : Int32) (v f : Int) (Q : (Nat → Int32) → Int32 → Prop) (h : rN l n v) (hf : p.toInt = f) (h0 : 0 ≤ f) (hv : v * f < 2147483648 ^ 64)
    (hQ : ∀ l' n', rN l' n' (v * f) → Q l' n') : w_X1_times l n p Q := by
  obtain ⟨k, hk, hn, hr, ht⟩ := h
  have hp4 := q_r4 p
  have hB := B31
  have fin : ∀ (l3 : Nat → Int32) (c : Int64), (∀ i, i < k → vL l3 i = dd 2147483648 (v * f) i) → c.toInt = dc 2147483648 v 0 f 0 0 k →
      w_X1_append l3 n c (fun l' n' => w_X1_trim l' n' (fun n'' => Q l' n'')) := by
    intro l3 c hd hc
    have e0 := dc_end 2147483648 v 0 f 0 0 k hr.1 hr.2.1 (by omega) (dPp _ hB k)
    simp only [Int.zero_mul, Int.add_zero] at e0
    have h00 : 0 ≤ v * f := Int.mul_nonneg hr.1 h0
    refine s_append l3 n c k (v * f) _ hk hn h00 hv ?_ (by rw [hc, e0]) hd ?_
    · rw [dPs]
      have a1 := Int.mul_le_mul_of_nonneg_left (show f ≤ 2147483648 by omega) hr.1
      have a2 := Int.mul_lt_mul_of_pos_right hr.2.1 hB
      omega
    · intro l' n' hu
      exact s_trim l' n' _ _ hu (fun n'' hn'' => hQ _ _ hn'')
  unfold w_X1_times
  refine ⟨fun i c l3 => ∃ j : Nat, j ≤ k ∧ i.toInt = j ∧ c.toInt = dc 2147483648 v 0 f 0 0 j ∧ (∀ m, m < j → vL l3 m = dd 2147483648 (v * f) m) ∧ (∀ m, j ≤ m → vL l3 m = vL l m),
    fun i _ _ => (64 - i.toInt).toNat, ⟨0, by omega, by decide, by rw [dc_0]; decide, fun m hm => absurd hm (by omega), fun m _ => rfl⟩, ?_⟩
  rintro i c l3 ⟨j, hj, hi, hc, hlo, hhi⟩
  refine ⟨fun a => ?_, fun a => ⟨fun a2 => ?_, fun a2 => ?_⟩⟩
  · rw [q_le4, hn, hi] at a
    have : j = k := by omega
    subst this
    exact fin l3 c hlo hc
  · rw [q_le4, z4_64, hi] at a2
    have : j = k := by omega
    subst this
    exact fin l3 c hlo hc
  · rw [q_le4, hn, hi] at a
    refine ⟨q_in i 64 (by omega) (by omega), ?_⟩
    intro v11 e11 c12 e12
    refine ⟨q_in i 64 (by omega) (by omega), ?_⟩
    intro l13 e13 c14 e14 i15 e15
    subst e15
    have xd : (l3 j).toInt = dd 2147483648 v j := by
      have := hhi j (by omega); unfold vL at this; rw [this]; exact hr.2.2 j (by omega)
    have d0 := dd_nn 2147483648 hB v j
    have d1 := dd_lt 2147483648 hB v j
    have cb := dc_b 2147483648 hB v 0 f 0 0 f 0 j (by omega) (by omega) (by omega) (by omega) h0 (by omega) (by omega) (by omega)
    have cn := dc_nn 2147483648 hB v 0 f 0 0 j h0 (by omega) (by omega)
    have m0 := Int.mul_nonneg d0 h0
    have m1 := Int.mul_le_mul_of_nonneg_right (show dd 2147483648 v j ≤ 2147483647 by omega) h0
    have ev : v11.toInt = dd 2147483648 v j * f := by
      rw [e11, q_ix i j hi]; exact v_mul8 (v_48 xd) (v_48 hf) (by omega) (by omega)
    have ec : c12.toInt = dd 2147483648 v j * f + dd 2147483648 0 j * 0 + dc 2147483648 v 0 f 0 0 j := by
      rw [e12, v_add8 hc ev (by omega) (by omega)]; omega
    have es := dc_s 2147483648 hB v 0 f 0 0 j
    have ed := dc_d 2147483648 hB v 0 f 0 0 j
    rw [← ec] at es ed
    simp only [Int.zero_mul, Int.add_zero] at ed
    refine ⟨⟨j + 1, by omega, q_inc i j hi (by omega), by rw [e14, q_shr31, es], ?_, ?_⟩, ?_⟩
    · intro m hm
      rw [e13, q_ix i j hi]
      by_cases cm : m = j
      · subst cm; rw [vL_e, q_dig _ _ ed]
      · rw [vL_n _ _ _ _ cm]; exact hlo m (by omega)
    · intro m hm
      rw [e13, q_ix i j hi, vL_n _ _ _ _ (by omega)]; exact hhi m (by omega)
    · show (64 - (i + 1).toInt).toNat < (64 - i.toInt).toNat
      rw [q_inc i j hi (by omega), hi]; omega
theorem dR_wide (B : Int) (hB : 1 < B) (f : Nat → Int) (k t : Nat) (v : Int) (h : dR B f k v) (ht : k ≤ t) : v < B ^ t := Int.lt_of_lt_of_le h.2.1 (dP_mono B hB k t ht)
theorem s_plusTimes (l : Nat → Int32) (n : Int32) (lo : Nat → Int32) (no p : Int32) (v w f : Int) (Q : (Nat → Int32) → Int32 → Prop) (h : rN l n v) (ho : rN lo no w) (hf : p.toInt = f)
    (h0 : 0 ≤ v + w * f) (hv : v + w * f < 2147483648 ^ 64)
    (hQ : ∀ l' n', rN l' n' (v + w * f) → Q l' n') : w_X1_plusTimes l n lo no p Q := by
  obtain ⟨k, hk, hn, hr, ht⟩ := h
  obtain ⟨ko, hko, hno, hro, hto⟩ := ho
  have hp4 := q_r4 p
  have hB := B31
  unfold w_X1_plusTimes
  refine ⟨fun t => ∃ T : Nat, T ≤ 64 ∧ k ≤ T ∧ ko ≤ T ∧ t.toInt = T, ⟨fun c => ?_, fun c => ?_⟩, ?_⟩
  · rw [q_le4, hn, hno] at c; exact ⟨ko, hko, by omega, by omega, hno⟩
  · rw [q_le4, hn, hno] at c; exact ⟨k, hk, by omega, by omega, hn⟩
  rintro t ⟨T, hT, hkT, hoT, htT⟩
  have vT := dR_wide _ (by decide) _ k T v hr hkT
  have wT := dR_wide _ (by decide) _ ko T w hro hoT
  have fin : ∀ (l3 : Nat → Int32) (c : Int64), (∀ i, i < T → vL l3 i = dd 2147483648 (v + w * f) i) → c.toInt = dc 2147483648 v w 1 f 0 T →
      w_X1_append l3 t c (fun l' n' => w_X1_trim l' n' (fun n'' => Q l' n'')) := by
    intro l3 c hd hc
    have e0 := dc_end 2147483648 v w 1 f 0 T hr.1 vT hro.1 wT
    simp only [Int.mul_one, Int.add_zero] at e0
    refine s_append l3 t c T (v + w * f) _ hT htT h0 hv ?_ (by rw [hc, e0]) hd ?_
    · rw [dPs]
      have a1 := Int.mul_le_mul_of_nonneg_left (show f ≤ 2147483647 by omega) hro.1
      have a2 := dPp 2147483648 hB T
      omega
    · intro l' n' hu
      exact s_trim l' n' _ _ hu (fun n'' hn'' => hQ _ _ hn'')
  refine ⟨fun i c l3 => ∃ j : Nat, j ≤ T ∧ i.toInt = j ∧ c.toInt = dc 2147483648 v w 1 f 0 j ∧ (∀ m, m < j → vL l3 m = dd 2147483648 (v + w * f) m) ∧ (∀ m, j ≤ m → vL l3 m = vL l m),
    fun i _ _ => (64 - i.toInt).toNat, ⟨0, by omega, by decide, by rw [dc_0]; decide, fun m hm => absurd hm (by omega), fun m _ => rfl⟩, ?_⟩
  rintro i c l3 ⟨j, hj, hi, hc, hlo, hhi⟩
  refine ⟨fun a => ?_, fun a => ⟨fun a2 => ?_, fun a2 => ?_⟩⟩
  · rw [q_le4, htT, hi] at a
    have : j = T := by omega
    subst this
    exact fin l3 c hlo hc
  · rw [q_le4, z4_64, hi] at a2
    have : j = T := by omega
    subst this
    exact fin l3 c hlo hc
  · rw [q_le4, htT, hi] at a
    refine s_limbAt l3 n i k j v _ hk hn hi hr.1 hr.2.1 (fun hjk => ?_) ?_
    · have := hhi j (by omega); unfold vL at this; rw [this]; exact hr.2.2 j hjk
    intro r14 e14
    refine s_limbAt lo no i ko j w _ hko hno hi hro.1 hro.2.1 (fun hjk => hro.2.2 j hjk) ?_
    intro r15 e15 v16 e16 c17 e17
    refine ⟨q_in i 64 (by omega) (by omega), ?_⟩
    intro l13 e13 c14 ec14 i15 ei15
    subst ei15
    have d0 := dd_nn 2147483648 hB v j
    have d1 := dd_lt 2147483648 hB v j
    have b0 := dd_nn 2147483648 hB w j
    have b1 := dd_lt 2147483648 hB w j
    have cb := dc_b 2147483648 hB v w 1 f 0 1 2147483648 j (by omega) (by omega) (by omega) (by omega) (by omega) (by omega) (by omega) (by omega)
    have m0 := dab (dd 2147483648 w j) 2147483648 f 2147483648 b0 (by omega) (by omega) (by omega) (by omega)
    have ev : v16.toInt = dd 2147483648 v j + dd 2147483648 w j * f := by
      rw [e16]; exact v_add8 (v_48 e14) (v_mul8 (v_48 e15) (v_48 hf) (by omega) (by omega)) (by omega) (by omega)
    have ec : c17.toInt = dd 2147483648 v j * 1 + dd 2147483648 w j * f + dc 2147483648 v w 1 f 0 j := by
      rw [e17, v_add8 hc ev (by omega) (by omega)]; omega
    have es := dc_s 2147483648 hB v w 1 f 0 j
    have ed := dc_d 2147483648 hB v w 1 f 0 j
    rw [← ec] at es ed
    simp only [Int.mul_one, Int.add_zero] at ed
    refine ⟨⟨j + 1, by omega, q_inc i j hi (by omega), by rw [ec14, q_shr31, es], ?_, ?_⟩, ?_⟩
    · intro m hm
      rw [e13, q_ix i j hi]
      by_cases cm : m = j
      · subst cm; rw [vL_e, q_dig _ _ ed]
      · rw [vL_n _ _ _ _ cm]; exact hlo m (by omega)
    · intro m hm
      rw [e13, q_ix i j hi, vL_n _ _ _ _ (by omega)]; exact hhi m (by omega)
    · show (64 - (i + 1).toInt).toNat < (64 - i.toInt).toNat
      rw [q_inc i j hi (by omega), hi]; omega
theorem s_isLess (l : Nat → Int32) (n : Int32) (lo : Nat → Int32) (no p1 p3 : Int32) (v w f g : Int) (Q : Int32 → Prop) (h : rN l n v) (ho : rN lo no w) (hf : p1.toInt = f) (hg : p3.toInt = g)
    (h0 : 0 ≤ f) (h1 : 0 ≤ g) (hQ1 : v * f < w * g → Q 1) (hQ0 : ¬ v * f < w * g → Q 0) : w_X1_isLess l n lo no p1 p3 Q := by
  obtain ⟨k, hk, hn, hr, ht⟩ := h
  obtain ⟨ko, hko, hno, hro, hto⟩ := ho
  have hp4 := q_r4 p1
  have hp4' := q_r4 p3
  have hB := B31
  unfold w_X1_isLess
  refine ⟨fun t => ∃ T : Nat, T ≤ 64 ∧ k ≤ T ∧ ko ≤ T ∧ t.toInt = T, ⟨fun c => ?_, fun c => ?_⟩, ?_⟩
  · rw [q_le4, hn, hno] at c; exact ⟨ko, hko, by omega, by omega, hno⟩
  · rw [q_le4, hn, hno] at c; exact ⟨k, hk, by omega, by omega, hn⟩
  rintro t ⟨T, hT, hkT, hoT, htT⟩
  have vT := dR_wide _ (by decide) _ k T v hr hkT
  have wT := dR_wide _ (by decide) _ ko T w hro hoT
  refine ⟨fun i c => ∃ j : Nat, j ≤ T ∧ i.toInt = j ∧ c.toInt = dc 2147483648 v w f (-g) 0 j,
    fun i _ => (64 - i.toInt).toNat, ⟨0, by omega, by decide, by rw [dc_0]; decide⟩, ?_⟩
  rintro i c ⟨j, hj, hi, hc⟩
  refine ⟨fun a => ?_, fun a => ?_⟩
  · rw [q_le4, htT, hi] at a
    have : j = T := by omega
    subst this
    have e0 := dc_end 2147483648 v w f (-g) 0 j hr.1 vT hro.1 wT
    have hp := dPp 2147483648 hB j
    rw [← hc, Int.mul_neg, Int.add_zero] at e0
    refine ⟨fun b => ?_, fun b => ?_⟩
    · rw [q_le8, z8_0] at b
      refine hQ0 (fun hc => ?_)
      have := Int.ediv_lt_of_lt_mul hp (show v * f + -(w * g) < 0 * 2147483648 ^ j by omega)
      omega
    · rw [q_le8, z8_0] at b
      refine hQ1 (Int.lt_of_not_ge (fun hc => ?_))
      have := Int.ediv_nonneg (show 0 ≤ v * f + -(w * g) by omega) (Int.le_of_lt hp)
      omega
  · rw [q_le4, htT, hi] at a
    refine s_limbAt l n i k j v _ hk hn hi hr.1 hr.2.1 (fun hjk => hr.2.2 j hjk) ?_
    intro r8 e8
    refine s_limbAt lo no i ko j w _ hko hno hi hro.1 hro.2.1 (fun hjk => hro.2.2 j hjk) ?_
    intro r9 e9 v10 e10 c11 e11 c12 e12 i13 e13
    subst e13
    have d0 := dd_nn 2147483648 hB v j
    have d1 := dd_lt 2147483648 hB v j
    have b0 := dd_nn 2147483648 hB w j
    have b1 := dd_lt 2147483648 hB w j
    have cb := dc_b 2147483648 hB v w f (-g) 0 2147483648 2147483648 j (by omega) (by omega) (by omega) (by omega) (by omega) (by omega) (by omega) (by omega)
    have m0 := dab (dd 2147483648 v j) 2147483648 f 2147483648 d0 (by omega) (by omega) (by omega) (by omega)
    have m1 := dab (dd 2147483648 w j) 2147483648 g 2147483648 b0 (by omega) (by omega) (by omega) (by omega)
    have n0 := Int.mul_nonneg d0 h0
    have n1 := Int.mul_nonneg b0 h1
    have ev : v10.toInt = dd 2147483648 v j * f - dd 2147483648 w j * g := by
      rw [e10]; exact v_sub8 (v_mul8 (v_48 e8) (v_48 hf) (by omega) (by omega)) (v_mul8 (v_48 e9) (v_48 hg) (by omega) (by omega)) (by omega) (by omega)
    have ec : c11.toInt = dd 2147483648 v j * f + dd 2147483648 w j * (-g) + dc 2147483648 v w f (-g) 0 j := by
      rw [e11, v_add8 hc ev (by omega) (by omega), Int.mul_neg]; omega
    have es := dc_s 2147483648 hB v w f (-g) 0 j
    rw [← ec] at es
    refine ⟨⟨j + 1, by omega, q_inc i j hi (by omega), by rw [e12, q_shr31, es]⟩, ?_⟩
    show (64 - (i + 1).toInt).toNat < (64 - i.toInt).toNat
    rw [q_inc i j hi (by omega), hi]; omega
theorem s_divideBy (l : Nat → Int32) (n p : Int32) (v d : Int) (Q : (Nat → Int32) → Int32 → Prop) (h : rN l n v) (hd : p.toInt = d) (h1 : 0 < d)
    (hQ : ∀ l' n', rN l' n' (v / d) → Q l' n') : w_X1_divideBy l n p Q := by
  obtain ⟨k, hk, hn, hr, ht⟩ := h
  have hp4 := q_r4 p
  have hB := B31
  unfold w_X1_divideBy
  refine ⟨fun _ => ?_, fun c => absurd (by rw [q_le4, z4_1, hd]; omega) c⟩
  intro i4 ei4
  have hdl : v / d ≤ v := Int.ediv_le_self d hr.1
  have hd0 := Int.ediv_nonneg hr.1 (Int.le_of_lt h1)
  have fin : ∀ l3 : Nat → Int32, (∀ m, m < k → vL l3 m = dd 2147483648 (v / d) m) → w_X1_trim l3 n (fun n' => Q l3 n') := by
    intro l3 hl
    exact s_trim l3 n (v / d) _ ⟨k, hk, hn, hd0, Int.lt_of_le_of_lt hdl hr.2.1, hl⟩ (fun n' hn' => hQ _ _ hn')
  refine ⟨fun i c l3 => ∃ j : Nat, j ≤ k ∧ i.toInt = (j : Int) - 1 ∧ c.toInt = v / 2147483648 ^ j % d ∧ (∀ m, j ≤ m → m < k → vL l3 m = dd 2147483648 (v / d) m) ∧ (∀ m, m < j → vL l3 m = dd 2147483648 v m),
    fun i _ _ => (i.toInt + 1).toNat, ⟨k, by omega, by rw [ei4, q_dec n k hn (by omega)], ?_, fun m h1 h2 => absurd h1 (by omega), hr.2.2⟩, ?_⟩
  · rw [Int.ediv_eq_zero_of_lt hr.1 hr.2.1, z8_0]; rfl
  rintro i c l3 ⟨j, hj, hi, hc, hhi, hlo⟩
  refine ⟨fun a => ?_, fun a => ⟨fun a2 => ?_, fun a2 => ?_⟩⟩
  · rw [q_lt4, z4_0, hi] at a
    exact fin l3 (fun m hm => hhi m (by omega) hm)
  · rw [q_le4, z4_64, hi] at a2; omega
  · rw [q_lt4, z4_0, hi] at a
    obtain ⟨m, rfl⟩ : ∃ m, j = m + 1 := ⟨j - 1, by omega⟩
    have him : i.toInt = (m : Int) := by omega
    refine ⟨q_in i 64 (by omega) (by omega), ?_⟩
    intro v8 e8
    have pne : ¬ p.toInt64 = 0 := by rw [q_eq8, q_48, z8_0, hd]; omega
    refine ⟨pne, ?_⟩
    intro v9 e9
    refine ⟨q_in i 64 (by omega) (by omega), ?_⟩
    intro l10 e10
    refine ⟨pne, ?_⟩
    intro v11 e11 i12 e12
    subst e12
    have ds := dv_step 2147483648 hB v d h1 m
    have c0 := Int.emod_nonneg (v / 2147483648 ^ (m + 1)) (Int.ne_of_gt h1)
    have c1 := Int.emod_lt_of_pos (v / 2147483648 ^ (m + 1)) h1
    have d0 := dd_nn 2147483648 hB v m
    have d1 := dd_lt 2147483648 hB v m
    have q0 := dd_nn 2147483648 hB (v / d) m
    have q1 := dd_lt 2147483648 hB (v / d) m
    have ev8 : v8.toInt = v / 2147483648 ^ (m + 1) % d * 2147483648 + dd 2147483648 v m := by
      rw [e8]
      have hs : (c <<< ((31 : Int32).toInt64 &&& 63)).toInt = v / 2147483648 ^ (m + 1) % d * 2147483648 := by
        rw [q_shl8 c _ 31 q_s31 (by rw [hc]; omega) (by rw [hc]; omega), hc]; rfl
      have hl : (l3 i.toNatClampNeg).toInt = dd 2147483648 v m := by rw [q_ix i m him]; exact hlo m (by omega)
      exact v_add8 hs (v_48 hl) (by omega) (by omega)
    have t0 : 0 ≤ v / 2147483648 ^ (m + 1) % d * 2147483648 + dd 2147483648 v m := by omega
    have ev9 : v9.toInt = dd 2147483648 (v / d) m := by
      rw [e9, v_div8 ev8 (v_48 hd) t0 h1, ds.1]
    have ev11 : v11.toInt = v / 2147483648 ^ m % d := by
      rw [e11, v_rem8 ev8 (v_48 hd) t0 h1, ds.2]
    refine ⟨⟨m, by omega, by rw [q_decm i m him (by omega)], ev11, ?_, ?_⟩, ?_⟩
    · intro x hx hx2
      rw [e10, q_ix i m him]
      by_cases cm : x = m
      · subst cm; rw [vL_e, v_84 ev9 (by omega) (by omega)]
      · rw [vL_n _ _ _ _ cm]; exact hhi x (by omega) hx2
    · intro x hx
      rw [e10, q_ix i m him, vL_n _ _ _ _ (by omega)]; exact hlo x (by omega)
    · show ((i + -1).toInt + 1).toNat < (i.toInt + 1).toNat
      rw [q_decm i m him (by omega), hi]; omega
theorem s_restBy (l : Nat → Int32) (n p : Int32) (v d : Int) (Q : Int32 → Prop) (h : rN l n v) (hd : p.toInt = d) (h1 : 0 < d)
    (hQ : ∀ r : Int32, r.toInt = v % d → Q r) : w_X1_restBy l n p Q := by
  obtain ⟨k, hk, hn, hr, ht⟩ := h
  have hp4 := q_r4 p
  have hB := B31
  unfold w_X1_restBy
  refine ⟨fun _ => ?_, fun c => absurd (by rw [q_le4, z4_1, hd]; omega) c⟩
  intro i4 ei4
  refine ⟨fun i c => ∃ j : Nat, j ≤ k ∧ i.toInt = (j : Int) - 1 ∧ c.toInt = v / 2147483648 ^ j % d,
    fun i _ => (i.toInt + 1).toNat, ⟨k, by omega, by rw [ei4, q_dec n k hn (by omega)], ?_⟩, ?_⟩
  · rw [Int.ediv_eq_zero_of_lt hr.1 hr.2.1, z8_0]; rfl
  rintro i c ⟨j, hj, hi, hc⟩
  have c0 := Int.emod_nonneg (v / 2147483648 ^ j) (Int.ne_of_gt h1)
  have c1 := Int.emod_lt_of_pos (v / 2147483648 ^ j) h1
  refine ⟨fun a => ?_, fun a => ?_⟩
  · rw [q_lt4, z4_0, hi] at a
    have : j = 0 := by omega
    subst this
    apply hQ
    rw [v_84 hc (by omega) (by omega), Int.pow_zero, Int.ediv_one]
  · rw [q_lt4, z4_0, hi] at a
    obtain ⟨m, rfl⟩ : ∃ m, j = m + 1 := ⟨j - 1, by omega⟩
    have him : i.toInt = (m : Int) := by omega
    refine s_limbAt l n i k m v _ hk hn him hr.1 hr.2.1 (fun hjk => hr.2.2 m hjk) ?_
    intro r5 e5 v6 e6
    have pne : ¬ p.toInt64 = 0 := by rw [q_eq8, q_48, z8_0, hd]; omega
    refine ⟨pne, ?_⟩
    intro v7 e7 i8 e8
    subst e8
    have ds := dv_step 2147483648 hB v d h1 m
    have d0 := dd_nn 2147483648 hB v m
    have d1 := dd_lt 2147483648 hB v m
    have ev8 : v6.toInt = v / 2147483648 ^ (m + 1) % d * 2147483648 + dd 2147483648 v m := by
      rw [e6]
      have hs : (c <<< ((31 : Int32).toInt64 &&& 63)).toInt = v / 2147483648 ^ (m + 1) % d * 2147483648 := by
        rw [q_shl8 c _ 31 q_s31 (by rw [hc]; omega) (by rw [hc]; omega), hc]; rfl
      exact v_add8 hs (v_48 e5) (by omega) (by omega)
    refine ⟨⟨m, by omega, by rw [q_decm i m him (by omega)], ?_⟩, ?_⟩
    · rw [e7, v_rem8 ev8 (v_48 hd) (by omega) h1, ds.2]
    · show ((i + -1).toInt + 1).toNat < (i.toInt + 1).toNat
      rw [q_decm i m him (by omega), hi]; omega
