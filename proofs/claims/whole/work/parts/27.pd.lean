theorem z4_12 : (12 : Int32).toInt = ((12 : Nat) : Int) := by decide
theorem z4_14 : (14 : Int32).toInt = ((14 : Nat) : Int) := by decide
theorem z4_15 : (15 : Int32).toInt = ((15 : Nat) : Int) := by decide
theorem z4_16 : (16 : Int32).toInt = ((16 : Nat) : Int) := by decide
theorem z4_17 : (17 : Int32).toInt = ((17 : Nat) : Int) := by decide
theorem q_2c (p0 : Int32) (c : Nat) (hp : p0.toInt = c) (hc : c ≤ 3) : (2 * p0).toInt = ((2 * c : Nat) : Int) := by
  rw [v_mul4 z2 hp (by omega) (by omega)]; omega
theorem q_2c1 (p0 : Int32) (c : Nat) (hp : p0.toInt = c) (hc : c ≤ 3) : (2 * p0 + 1).toInt = ((2 * c + 1 : Nat) : Int) := q_inc _ _ (q_2c p0 c hp hc) (by omega)
def lV (V V' : Nat → Nat) (c N D : Nat) : Prop := V' (2 * c) = N ∧ V' (2 * c + 1) = D ∧ ∀ s, s < 10 → s ≠ 2 * c → s ≠ 2 * c + 1 → V' s = V s
theorem s_lowest (fig : Nat → Int64) (len : Nat → Int32) (top bel : Nat → Int64) (V : Nat → Nat) (p0 : Int32) (c : Nat) (Q : (Nat → Int64) → (Nat → Int32) → (Nat → Int64) → (Nat → Int64) → Prop) (h : AL fig len V)
    (hp : p0.toInt = c) (hc : c ≤ 3) (hD : 0 < V 15)
    (hQ : ∀ fig' len' top' bel' V', AL fig' len' V' → lV V V' c (V 14 / Nat.gcd (V 14) (V 15)) (V 15 / Nat.gcd (V 14) (V 15)) → Q fig' len' top' bel') : w_X5_lowest fig len top bel p0 14 15 Q := by
  unfold w_X5_lowest
  have i2 := q_2c p0 c hp hc
  have i3 := q_2c1 p0 c hp hc
  have l14 := sR_len0 _ _ _ _ (h 14 (by decide))
  have ix14 : (14 : Int32).toNatClampNeg = 14 := rfl
  have hg : 0 < Nat.gcd (V 14) (V 15) := Nat.gcd_pos_of_pos_right _ hD
  refine ⟨by unfold vp_in; decide, fun c1 => ?_, fun c1 => ?_⟩
  · refine s_divisor fig len top V 14 15 14 15 _ h z4_14 (by decide) z4_15 (by decide) (by decide) (by decide) ?_
    rintro f1 l2 t3 B ⟨V1, h1, e10, _, e3⟩
    have e14 : V1 14 = V 14 := e3 14 (by decide) (by decide) (by decide)
    have e15 : V1 15 = V 15 := e3 15 (by decide) (by decide) (by decide)
    refine s_copy f1 l2 V1 16 14 16 14 _ h1 z4_16 (by decide) z4_14 (by decide) (by decide) ?_
    intro f4 l5 h4
    refine s_copy f4 l5 _ 17 15 17 15 _ h4 z4_17 (by decide) z4_15 (by decide) (by decide) ?_
    intro f6 l7 h6
    rw [sV_n V1 16 _ 15 (by decide), e14, e15] at h6
    obtain ⟨V2, hV2⟩ : ∃ V2, V2 = sV (sV V1 16 (V 14)) 17 (V 15) := ⟨_, rfl⟩
    rw [← hV2] at h6
    have k10 : V2 10 = Nat.gcd (V 14) (V 15) := by rw [hV2, sV_n _ _ _ _ (by decide), sV_n _ _ _ _ (by decide), e10]
    have k16 : V2 16 = V 14 := by rw [hV2, sV_n _ _ _ _ (by decide), sV_e]
    have k17 : V2 17 = V 15 := by rw [hV2, sV_e]
    have ko : ∀ s, s < 10 → V2 s = V s := fun s hs => by rw [hV2, sV_n _ _ _ _ (by omega), sV_n _ _ _ _ (by omega)]; exact e3 s (by omega) (by omega) (by omega)
    refine s_divide f6 l7 t3 bel V2 12 13 16 10 12 13 16 10 _ h6 z4_12 (by decide) z4_13 (by decide) z4_16 (by decide) z4_10 (by decide) (by decide) (by decide) (by rw [k10]; exact hg) ?_
    intro f8 l9 t10 b11 h8
    rw [k16, k10] at h8
    refine s_copy f8 l9 _ (2 * p0) 12 (2 * c) 12 _ h8 i2 (by omega) z4_12 (by decide) (by omega) ?_
    intro f12 l13 h12
    rw [sV_n _ 13 _ 12 (by decide), sV_e] at h12
    obtain ⟨V3, hV3⟩ : ∃ V3, V3 = sV (sV (sV V2 12 (V 14 / (V 14).gcd (V 15))) 13 (V 14 % (V 14).gcd (V 15))) (2 * c) (V 14 / (V 14).gcd (V 15)) := ⟨_, rfl⟩
    rw [← hV3] at h12
    have m10 : V3 10 = Nat.gcd (V 14) (V 15) := by rw [hV3, sV_n _ _ _ _ (by omega), sV_n _ _ _ _ (by decide), sV_n _ _ _ _ (by decide), k10]
    have m17 : V3 17 = V 15 := by rw [hV3, sV_n _ _ _ _ (by omega), sV_n _ _ _ _ (by decide), sV_n _ _ _ _ (by decide), k17]
    have m2c : V3 (2 * c) = V 14 / (V 14).gcd (V 15) := by rw [hV3, sV_e]
    have mo : ∀ s, s < 10 → s ≠ 2 * c → V3 s = V s := fun s hs hs2 => by rw [hV3, sV_n _ _ _ _ hs2, sV_n _ _ _ _ (by omega), sV_n _ _ _ _ (by omega)]; exact ko s hs
    refine s_divide f12 l13 t10 b11 V3 12 13 17 10 12 13 17 10 _ h12 z4_12 (by decide) z4_13 (by decide) z4_17 (by decide) z4_10 (by decide) (by decide) (by decide) (by rw [m10]; exact hg) ?_
    intro f14 l15 t16 b17 h14
    rw [m17, m10] at h14
    intro v18 e18
    rw [← e18] at i3
    refine s_copy f14 l15 _ v18 12 (2 * c + 1) 12 _ h14 i3 (by omega) z4_12 (by decide) (by omega) ?_
    intro f19 l20 h19
    rw [sV_n _ 13 _ 12 (by decide), sV_e] at h19
    refine hQ _ _ _ _ _ h19 ⟨?_, by rw [sV_e], fun s h1 h2 h3 => ?_⟩
    · rw [sV_n _ _ _ _ (by omega), sV_n _ _ _ _ (by omega), sV_n _ _ _ _ (by omega), m2c]
    · rw [sV_n _ _ _ _ h3, sV_n _ _ _ _ (by omega), sV_n _ _ _ _ (by omega)]; exact mo s h1 h2
  · rw [ix14, l14.1] at c1
    refine ⟨q_in _ _ (by omega) (by omega), ?_⟩
    intro l21 e21 v22 e22
    rw [q_ix _ _ i2] at e21
    rw [← e22] at i3
    have h21 : AL fig l21 (sV V (2 * c) 0) := by
      refine AL_put fig fig len l21 V (2 * c) 0 h (FO_r _ _) (by rw [e21]; exact LO_u _ _ _) ⟨0, by omega, by rw [e21, upd_e]; decide, ⟨by decide, by decide, fun i hi => absurd hi (by omega)⟩, Or.inl rfl⟩
    refine s_put fig l21 _ v22 1 (2 * c + 1) 1 _ h21 i3 (by omega) (by decide) (by decide) ?_
    intro f23 l24 h23
    refine hQ _ _ _ _ _ h23 ⟨?_, ?_, fun s h1 h2 h3 => by rw [sV_n _ _ _ _ h3, sV_n _ _ _ _ h2]⟩
    · rw [sV_n _ _ _ _ (by omega), sV_e, c1, Nat.zero_div]
    · rw [sV_e, c1, Nat.gcd_zero_left, Nat.div_self hD]
theorem s_set (fig : Nat → Int64) (len : Nat → Int32) (top bel : Nat → Int64) (V : Nat → Nat) (p0 p1 p2 : Int32) (c a b : Nat) (Q : (Nat → Int64) → (Nat → Int32) → (Nat → Int64) → (Nat → Int64) → Prop) (h : AL fig len V)
    (hp : p0.toInt = c) (hc : c ≤ 3) (ha : p1.toInt = a) (hb : p2.toInt = b) (hb0 : 0 < b)
    (hQ : ∀ fig' len' top' bel' V', AL fig' len' V' → lV V V' c (a / Nat.gcd a b) (b / Nat.gcd a b) → Q fig' len' top' bel') : w_X5_set fig len top bel p0 p1 p2 Q := by
  unfold w_X5_set
  have ra := q_r4 p1
  have rb := q_r4 p2
  refine s_put fig len V 14 _ 14 a _ h z4_14 (by decide) (v_48 ha) (by omega) ?_
  intro f1 l2 h1
  refine s_put f1 l2 _ 15 _ 15 b _ h1 z4_15 (by decide) (v_48 hb) (by omega) ?_
  intro f3 l4 h3
  have k15 : sV (sV V 14 a) 15 b 15 = b := sV_e _ _ _
  have k14 : sV (sV V 14 a) 15 b 14 = a := by rw [sV_n _ _ _ _ (by decide), sV_e]
  refine s_lowest f3 l4 top bel _ p0 c _ h3 hp hc (by rw [k15]; exact hb0) ?_
  intro f5 l6 t7 b8 V' h5 hl
  rw [k14, k15] at hl
  exact hQ _ _ _ _ V' h5 ⟨hl.1, hl.2.1, fun s h1 h2 h3 => by rw [hl.2.2 s h1 h2 h3, sV_n _ _ _ _ (by omega), sV_n _ _ _ _ (by omega)]⟩
def sm (v : Nat) : Prop := v < 2 ^ 744
theorem cap2 (x y z w : Nat) (hx : sm x) (hy : sm y) (hz : sm z) (hw : sm w) : ((x * y + z * w : Nat) : Int) < C64 := by
  unfold sm at *
  have h1 : x * y ≤ 2 ^ 744 * 2 ^ 744 := Nat.mul_le_mul (Nat.le_of_lt hx) (Nat.le_of_lt hy)
  have h2 : z * w ≤ 2 ^ 744 * 2 ^ 744 := Nat.mul_le_mul (Nat.le_of_lt hz) (Nat.le_of_lt hw)
  have h3 : ((2 ^ 744 * 2 ^ 744 + 2 ^ 744 * 2 ^ 744 : Nat) : Int) < C64 := by unfold C64; decide +kernel
  exact Int.lt_of_le_of_lt (Int.ofNat_le.mpr (Nat.add_le_add h1 h2)) h3
theorem cap1 (x y : Nat) (hx : sm x) (hy : sm y) : ((x * y : Nat) : Int) < C64 := by
  have := cap2 x y 0 0 hx hy (Nat.two_pow_pos 744) (Nat.two_pow_pos 744)
  exact this
def cV (V V' : Nat → Nat) (c d : Nat) : Prop := V' 14 = V (2 * c) * V (2 * d + 1) ∧ V' 16 = V (2 * d) * V (2 * c + 1) ∧ V' 15 = V (2 * c + 1) * V (2 * d + 1) ∧ ∀ s, s < 10 → V' s = V s
theorem s_cross (fig : Nat → Int64) (len : Nat → Int32) (top : Nat → Int64) (V : Nat → Nat) (p0 p1 : Int32) (c d : Nat) (Q : (Nat → Int64) → (Nat → Int32) → (Nat → Int64) → Prop) (h : AL fig len V)
    (hp : p0.toInt = c) (hc : c ≤ 3) (hd : p1.toInt = d) (hd2 : d ≤ 3) (hs : sm (V (2 * c)) ∧ sm (V (2 * c + 1)) ∧ sm (V (2 * d)) ∧ sm (V (2 * d + 1)))
    (hQ : ∀ fig' len' top' V', AL fig' len' V' → cV V V' c d → Q fig' len' top') : w_X5_cross fig len top p0 p1 Q := by
  unfold w_X5_cross
  have i1 := q_2c p0 c hp hc
  have i2 := q_2c1 p0 c hp hc
  have i3 := q_2c p1 d hd hd2
  have i4 := q_2c1 p1 d hd hd2
  obtain ⟨s1, s2, s3, s4⟩ := hs
  intro v1 e1
  refine s_times5 fig len top V 14 (2 * p0) v1 14 (2 * c) (2 * d + 1) _ h z4_14 (by decide) i1 (by omega) (by rw [e1]; exact i4) (by omega) (cap1 _ _ s1 s4) ?_
  intro f2 l3 t4 h2 v5 e5
  have a1 : sV V 14 (V (2 * c) * V (2 * d + 1)) (2 * d) = V (2 * d) := sV_n _ _ _ _ (by omega)
  have a2 : sV V 14 (V (2 * c) * V (2 * d + 1)) (2 * c + 1) = V (2 * c + 1) := sV_n _ _ _ _ (by omega)
  refine s_times5 f2 l3 t4 _ 16 (2 * p1) v5 16 (2 * d) (2 * c + 1) _ h2 z4_16 (by decide) i3 (by omega) (by rw [e5]; exact i2) (by omega) (by rw [a1, a2]; exact cap1 _ _ s3 s2) ?_
  intro f6 l7 t8 h6 v9 e9 v10 e10
  rw [a1, a2] at h6
  obtain ⟨W, hW⟩ : ∃ W, W = sV (sV V 14 (V (2 * c) * V (2 * d + 1))) 16 (V (2 * d) * V (2 * c + 1)) := ⟨_, rfl⟩
  rw [← hW] at h6
  have b0 : ∀ s, s < 10 → W s = V s := fun s hs => by rw [hW, sV_n _ _ _ _ (by omega), sV_n _ _ _ _ (by omega)]
  have b14 : W 14 = V (2 * c) * V (2 * d + 1) := by rw [hW, sV_n _ _ _ _ (by decide), sV_e]
  have b16 : W 16 = V (2 * d) * V (2 * c + 1) := by rw [hW, sV_e]
  refine s_times5 f6 l7 t8 W 15 v9 v10 15 (2 * c + 1) (2 * d + 1) _ h6 z4_15 (by decide) (by rw [e9]; exact i2) (by omega) (by rw [e10]; exact i4) (by omega) (by rw [b0 _ (by omega), b0 _ (by omega)]; exact cap1 _ _ s2 s4) ?_
  intro f11 l12 t13 h11
  rw [b0 (2 * c + 1) (by omega), b0 (2 * d + 1) (by omega)] at h11
  exact hQ _ _ _ _ h11 ⟨by rw [sV_n _ _ _ _ (by decide), b14], by rw [sV_n _ _ _ _ (by decide), b16], by rw [sV_e], fun s hs => by rw [sV_n _ _ _ _ (by omega)]; exact b0 s hs⟩
theorem s_add0 (fig : Nat → Int64) (len : Nat → Int32) (top bel : Nat → Int64) (V : Nat → Nat) (p0 p1 p2 : Int32) (e c d : Nat) (Q : (Nat → Int64) → (Nat → Int32) → (Nat → Int64) → (Nat → Int64) → Prop) (h : AL fig len V)
    (he : p0.toInt = e) (he2 : e ≤ 3) (hp : p1.toInt = c) (hc : c ≤ 3) (hd : p2.toInt = d) (hd2 : d ≤ 3) (hs : sm (V (2 * c)) ∧ sm (V (2 * c + 1)) ∧ sm (V (2 * d)) ∧ sm (V (2 * d + 1))) (hD : 0 < V (2 * c + 1) ∧ 0 < V (2 * d + 1))
    (hQ : ∀ fig' len' top' bel' V' N D, AL fig' len' V' → N = V (2 * c) * V (2 * d + 1) + V (2 * d) * V (2 * c + 1) → D = V (2 * c + 1) * V (2 * d + 1) → lV V V' e (N / Nat.gcd N D) (D / Nat.gcd N D) → Q fig' len' top' bel') : w_X5_add0 fig len top bel p0 p1 p2 Q := by
  unfold w_X5_add0
  refine s_cross fig len top V p1 p2 c d _ h hp hc hd hd2 hs ?_
  rintro f1 l2 t3 V1 h1 ⟨k14, k16, k15, ko⟩
  refine s_plus f1 l2 t3 V1 17 14 16 17 14 16 _ h1 z4_17 (by decide) z4_14 (by decide) z4_16 (by decide) (by rw [k14, k16]; exact cap2 _ _ _ _ hs.1 hs.2.2.2 hs.2.2.1 hs.2.1) ?_
  intro f4 l5 t6 h4
  refine s_copy f4 l5 _ 14 17 14 17 _ h4 z4_14 (by decide) z4_17 (by decide) (by decide) ?_
  intro f7 l8 h7
  rw [sV_e, k14, k16] at h7
  obtain ⟨N, hN⟩ : ∃ N, N = V (2 * c) * V (2 * d + 1) + V (2 * d) * V (2 * c + 1) := ⟨_, rfl⟩
  obtain ⟨D, hDD⟩ : ∃ D, D = V (2 * c + 1) * V (2 * d + 1) := ⟨_, rfl⟩
  rw [← hN] at h7
  have m14 : sV (sV V1 17 N) 14 N 14 = N := sV_e _ _ _
  have m15 : sV (sV V1 17 N) 14 N 15 = D := by rw [sV_n _ _ _ _ (by decide), sV_n _ _ _ _ (by decide), k15, hDD]
  refine s_lowest f7 l8 t6 bel _ p0 e _ h7 he he2 (by rw [m15, hDD]; exact Nat.mul_pos hD.1 hD.2) ?_
  intro f9 l10 t11 b12 V' h9 hl
  rw [m14, m15] at hl
  exact hQ _ _ _ _ V' N D h9 hN hDD ⟨hl.1, hl.2.1, fun s h1 h2 h3 => by rw [hl.2.2 s h1 h2 h3, sV_n _ _ _ _ (by omega), sV_n _ _ _ _ (by omega)]; exact ko s h1⟩
theorem s_subtract (fig : Nat → Int64) (len : Nat → Int32) (top bel : Nat → Int64) (V : Nat → Nat) (p0 p1 p2 : Int32) (e c d : Nat) (Q : (Nat → Int64) → (Nat → Int32) → (Nat → Int64) → (Nat → Int64) → Prop) (h : AL fig len V)
    (he : p0.toInt = e) (he2 : e ≤ 3) (hp : p1.toInt = c) (hc : c ≤ 3) (hd : p2.toInt = d) (hd2 : d ≤ 3) (hs : sm (V (2 * c)) ∧ sm (V (2 * c + 1)) ∧ sm (V (2 * d)) ∧ sm (V (2 * d + 1))) (hD : 0 < V (2 * c + 1) ∧ 0 < V (2 * d + 1))
    (hle : V (2 * d) * V (2 * c + 1) ≤ V (2 * c) * V (2 * d + 1))
    (hQ : ∀ fig' len' top' bel' V' N D, AL fig' len' V' → N = V (2 * c) * V (2 * d + 1) - V (2 * d) * V (2 * c + 1) → D = V (2 * c + 1) * V (2 * d + 1) → lV V V' e (N / Nat.gcd N D) (D / Nat.gcd N D) → Q fig' len' top' bel') : w_X5_subtract fig len top bel p0 p1 p2 Q := by
  unfold w_X5_subtract
  refine s_cross fig len top V p1 p2 c d _ h hp hc hd hd2 hs ?_
  rintro f1 l2 t3 V1 h1 ⟨k14, k16, k15, ko⟩
  refine s_minus f1 l2 t3 V1 17 14 16 17 14 16 _ h1 z4_17 (by decide) z4_14 (by decide) z4_16 (by decide) (by rw [k14, k16]; exact hle) ?_
  intro f4 l5 t6 h4
  refine s_copy f4 l5 _ 14 17 14 17 _ h4 z4_14 (by decide) z4_17 (by decide) (by decide) ?_
  intro f7 l8 h7
  rw [sV_e, k14, k16] at h7
  obtain ⟨N, hN⟩ : ∃ N, N = V (2 * c) * V (2 * d + 1) - V (2 * d) * V (2 * c + 1) := ⟨_, rfl⟩
  obtain ⟨D, hDD⟩ : ∃ D, D = V (2 * c + 1) * V (2 * d + 1) := ⟨_, rfl⟩
  rw [← hN] at h7
  have m14 : sV (sV V1 17 N) 14 N 14 = N := sV_e _ _ _
  have m15 : sV (sV V1 17 N) 14 N 15 = D := by rw [sV_n _ _ _ _ (by decide), sV_n _ _ _ _ (by decide), k15, hDD]
  refine s_lowest f7 l8 t6 bel _ p0 e _ h7 he he2 (by rw [m15, hDD]; exact Nat.mul_pos hD.1 hD.2) ?_
  intro f9 l10 t11 b12 V' h9 hl
  rw [m14, m15] at hl
  exact hQ _ _ _ _ V' N D h9 hN hDD ⟨hl.1, hl.2.1, fun s h1 h2 h3 => by rw [hl.2.2 s h1 h2 h3, sV_n _ _ _ _ (by omega), sV_n _ _ _ _ (by omega)]; exact ko s h1⟩
theorem s_isMore (fig : Nat → Int64) (len : Nat → Int32) (top : Nat → Int64) (V : Nat → Nat) (p0 p1 : Int32) (c d : Nat) (Q : Int32 → (Nat → Int64) → (Nat → Int32) → (Nat → Int64) → Prop) (h : AL fig len V)
    (hp : p0.toInt = c) (hc : c ≤ 3) (hd : p1.toInt = d) (hd2 : d ≤ 3) (hs : sm (V (2 * c)) ∧ sm (V (2 * c + 1)) ∧ sm (V (2 * d)) ∧ sm (V (2 * d + 1)))
    (hQ : ∀ r fig' len' top' V', AL fig' len' V' → (∀ s, s < 10 → V' s = V s) → (r = 1 ∧ V (2 * d) * V (2 * c + 1) < V (2 * c) * V (2 * d + 1) ∨ r = 0 ∧ ¬ V (2 * d) * V (2 * c + 1) < V (2 * c) * V (2 * d + 1)) → Q r fig' len' top') : w_X5_isMore fig len top p0 p1 Q := by
  unfold w_X5_isMore
  refine s_cross fig len top V p0 p1 c d _ h hp hc hd hd2 hs ?_
  rintro f1 l2 t3 V1 h1 ⟨k14, k16, k15, ko⟩
  refine s_compare f1 l2 14 16 14 16 _ _ _ z4_14 (by decide) z4_16 (by decide) (h1 14 (by decide)) (h1 16 (by decide)) (fun hlt => ?_) (fun heq => ?_) (fun hlt => ?_)
  · rw [k14, k16] at hlt
    exact ⟨fun c4 => absurd c4 (by decide), fun _ => hQ _ _ _ _ V1 h1 ko (Or.inl ⟨rfl, hlt⟩)⟩
  · rw [k14, k16] at heq
    exact ⟨fun _ => hQ _ _ _ _ V1 h1 ko (Or.inr ⟨rfl, by omega⟩), fun c4 => absurd (by decide) c4⟩
  · rw [k14, k16] at hlt
    exact ⟨fun _ => hQ _ _ _ _ V1 h1 ko (Or.inr ⟨rfl, by omega⟩), fun c4 => absurd (by decide) c4⟩
def bd (K N D : Nat) : Prop := 0 < D ∧ D ≤ 1000 ^ K ∧ N ≤ K * 2147483648 * D ∧ Nat.gcd N D = 1
theorem bd_sm (K N D : Nat) (hK : K ≤ 70) (h : bd K N D) : sm N ∧ sm D := by
  obtain ⟨h1, h2, h3, _⟩ := h
  have h4 : (1000 : Nat) ^ K ≤ 1000 ^ 70 := Nat.pow_le_pow_right (by decide) hK
  have h5 : (1000 : Nat) ^ 70 * (70 * 2147483648) < 2 ^ 744 := by decide +kernel
  have h6 : K * 2147483648 * D ≤ 70 * 2147483648 * 1000 ^ 70 := Nat.mul_le_mul (by omega) (Nat.le_trans h2 h4)
  rw [Nat.mul_comm] at h6
  rw [Nat.mul_comm (70 * 2147483648)] at h6
  unfold sm
  generalize (2 : Nat) ^ 744 = C at *
  generalize (1000 : Nat) ^ 70 = E at *
  rw [Nat.mul_comm D] at h6
  constructor
  · exact Nat.lt_of_le_of_lt (Nat.le_trans h3 h6) h5
  · omega
theorem sm_40 (x : Nat) (h : sm x) : (x : Int) < 2147483648 ^ 40 := by
  unfold sm at h
  have h1 : ((2 ^ 744 : Nat) : Int) < 2147483648 ^ 40 := by decide +kernel
  exact Int.lt_trans (Int.ofNat_lt.mpr h) h1
theorem bd_mono (K K' N D : Nat) (h : bd K N D) (hk : K ≤ K') : bd K' N D := by
  obtain ⟨h1, h2, h3, h4⟩ := h
  exact ⟨h1, Nat.le_trans h2 (Nat.pow_le_pow_right (by decide) hk), Nat.le_trans h3 (Nat.mul_le_mul_right _ (Nat.mul_le_mul_right _ hk)), h4⟩
theorem bd_new (a b : Nat) (ha : a < 2147483648) (hb : 0 < b) (hb2 : b ≤ 1000) : bd 1 (a / Nat.gcd a b) (b / Nat.gcd a b) := by
  have hg : 0 < Nat.gcd a b := Nat.gcd_pos_of_pos_right _ hb
  have h1 : 0 < b / Nat.gcd a b := Nat.div_pos (Nat.le_of_dvd hb (Nat.gcd_dvd_right a b)) hg
  have h2 := Nat.div_le_self b (Nat.gcd a b)
  have h3 := Nat.div_le_self a (Nat.gcd a b)
  refine ⟨h1, by omega, ?_, cop_div a b hg⟩
  have := Nat.mul_le_mul_left 2147483648 h1
  omega
theorem bd_chg (K N D a b N' D' : Nat) (h : bd K N D) (ha : a < 2147483648) (hb : 0 < b) (hb2 : b ≤ 1000) (hg : Nat.gcd N' D' = 1) (hD : 0 < D') (hd : D' ∣ D * b) (he : N' * (D * b) ≤ (N * b + a * D) * D') : bd (K + 1) N' D' := by
  obtain ⟨h1, h2, h3, h4⟩ := h
  have hDb : 0 < D * b := Nat.mul_pos h1 hb
  refine ⟨hD, Nat.le_trans (Nat.le_of_dvd hDb hd) (by rw [Nat.pow_succ]; exact Nat.mul_le_mul h2 hb2), ?_, hg⟩
  refine Nat.le_of_mul_le_mul_right (c := D * b) (Nat.le_trans he ?_) hDb
  have e1 : N * b ≤ K * 2147483648 * (D * b) := by rw [← Nat.mul_assoc]; exact Nat.mul_le_mul_right b h3
  have e2 : a * D ≤ 2147483648 * (D * b) := Nat.mul_le_mul (Nat.le_of_lt ha) (Nat.le_mul_of_pos_right D hb)
  have e3 : (K + 1) * 2147483648 * D' * (D * b) = (K * 2147483648 * (D * b) + 2147483648 * (D * b)) * D' := by
    rw [Nat.add_mul K 1, Nat.one_mul, Nat.add_mul, Nat.add_mul, Nat.add_mul]
    congr 1 <;> ac_rfl
  rw [e3]
  exact Nat.mul_le_mul_right D' (Nat.add_le_add e1 e2)
theorem ratU (N' D' N D : Nat) (hg : Nat.gcd N' D' = 1) (hD' : 0 < D') (hD : 0 < D) (e : N' * D = N * D') : N' = N / Nat.gcd N D ∧ D' = D / Nat.gcd N D := by
  have hgp : 0 < Nat.gcd N D := Nat.gcd_pos_of_pos_right _ hD
  refine low_uniq _ _ _ _ hg (cop_div N D hgp) hD' ?_
  refine Nat.eq_of_mul_eq_mul_right hgp ?_
  rw [Nat.mul_assoc, Nat.div_mul_cancel (Nat.gcd_dvd_right N D), Nat.mul_right_comm, Nat.div_mul_cancel (Nat.gcd_dvd_left N D)]
  exact e
def pOK (p0 p1 : Int32) : Prop := 0 ≤ p0.toInt ∧ 1 ≤ p1.toInt ∧ p1.toInt ≤ 1000
def cOK (p0 p1 : Int32) : Prop := 0 ≤ p0.toInt ∧ p0.toInt ≤ 3000 ∧ 1 ≤ p1.toInt ∧ p1.toInt ≤ 1000
theorem s_incr (lu : Nat → Int32) (nu : Int32) (ld : Nat → Int32) (nd p0 p1 : Int32) (K N D a b : Nat) (Q : (Nat → Int32) → Int32 → (Nat → Int32) → Int32 → Prop)
    (h : fA lu nu ld nd N D) (hb : bd K N D) (hK : K ≤ 70) (ha : p0.toInt = a) (hb1 : p1.toInt = b) (hb0 : 0 < b) (hb2 : b ≤ 1000)
    (hQ : ∀ lu' nu' ld' nd' N' D', fA lu' nu' ld' nd' N' D' → bd (K + 1) N' D' → N' * (D * b) = (N * b + a * D) * D' → Q lu' nu' ld' nd') : w_X0_increase lu nu ld nd p0 p1 Q := by
  unfold w_X0_increase
  have r0 := q_r4 p0
  have hs := bd_sm K N D hK hb
  refine s_change lu nu ld nd p0 p1 1 N D a b 1 _ h hb.2.2.2 hb.1 (sm_40 _ hs.1) (sm_40 _ hs.2) ha hb1 hb0 hb2 z4_1 (Or.inl rfl) ?_
  intro lu' nu' ld' nd' N' D' hf hg hD hd he
  have he' : N' * (D * b) = (N * b + a * D) * D' := by
    rw [Int.one_mul] at he; exact_mod_cast he
  exact hQ _ _ _ _ N' D' hf (bd_chg K N D a b N' D' hb (by omega) hb0 hb2 hg hD hd (Nat.le_of_eq he')) he'
theorem s_decr (lu : Nat → Int32) (nu : Int32) (ld : Nat → Int32) (nd p0 p1 : Int32) (K N D a b : Nat) (Q : (Nat → Int32) → Int32 → (Nat → Int32) → Int32 → Prop)
    (h : fA lu nu ld nd N D) (hb : bd K N D) (hK : K ≤ 70) (ha : p0.toInt = a) (hb1 : p1.toInt = b) (hb0 : 0 < b) (hb2 : b ≤ 1000) (hle : a * D ≤ N * b)
    (hQ : ∀ lu' nu' ld' nd' N' D', fA lu' nu' ld' nd' N' D' → bd (K + 1) N' D' → N' * (D * b) + a * D * D' = N * b * D' → Q lu' nu' ld' nd') : w_X0_decrease lu nu ld nd p0 p1 Q := by
  unfold w_X0_decrease
  have r0 := q_r4 p0
  have hs := bd_sm K N D hK hb
  refine s_change lu nu ld nd p0 p1 (-1) N D a b (-1) _ h hb.2.2.2 hb.1 (sm_40 _ hs.1) (sm_40 _ hs.2) ha hb1 hb0 hb2 z4_m1 (Or.inr ⟨rfl, hle⟩) ?_
  intro lu' nu' ld' nd' N' D' hf hg hD hd he
  have he' : N' * (D * b) + a * D * D' = N * b * D' := by
    have e1 : ((N' * (D * b) + a * D * D' : Nat) : Int) = ((N * b * D' : Nat) : Int) := by
      push_cast
      have : (N : Int) * b + -1 * a * D = N * b - a * D := by rw [Int.neg_mul, Int.one_mul, Int.neg_mul]; omega
      rw [this, Int.sub_mul] at he
      omega
    exact_mod_cast e1
  refine hQ _ _ _ _ N' D' hf (bd_chg K N D a b N' D' hb (by omega) hb0 hb2 hg hD hd ?_) he'
  rw [Nat.add_mul]; omega
theorem s_cbudget (lgu : Nat → Int32) (ngu : Int32) (lgd : Nat → Int32) (ngd : Int32) (leu : Nat → Int32) (neu : Int32) (led : Nat → Int32) (ned : Int32) (lfu : Nat → Int32) (nfu : Int32) (lfd : Nat → Int32) (nfd ans rfc rfb p0 p1 : Int32) (X : Prop)
    (Q : (Nat → Int32) → Int32 → (Nat → Int32) → Int32 → (Nat → Int32) → Int32 → (Nat → Int32) → Int32 → (Nat → Int32) → Int32 → (Nat → Int32) → Int32 → Int32 → Int32 → Int32 → Prop)
    (hX : ¬ pOK p0 p1 → X)
    (hQ : ∀ a b : Nat, p0.toInt = a → p1.toInt = b → 0 < b → b ≤ 1000 → ∀ a1 a2 a3 a4 b1 b2 b3 b4 c1 c2 c3 c4, fA a1 a2 a3 a4 (a / Nat.gcd a b) (b / Nat.gcd a b) → fA b1 b2 b3 b4 0 1 → fA c1 c2 c3 c4 (a / Nat.gcd a b) (b / Nat.gcd a b) → Q a1 a2 a3 a4 b1 b2 b3 b4 c1 c2 c3 c4 0 0 0) :
    w_X4_budget lgu ngu lgd ngd leu neu led ned lfu nfu lfd nfd ans rfc rfb p0 p1 X Q := by
  unfold w_X4_budget
  refine s_isGrant p0 p1 _ (fun hv => ⟨fun _ => ?_, fun c => absurd c (by decide)⟩) (fun hv => ⟨fun c => absurd rfl c, fun _ => hX hv⟩)
  obtain ⟨a, ha⟩ := Int.eq_ofNat_of_zero_le hv.1
  obtain ⟨b, hb⟩ := Int.eq_ofNat_of_zero_le (show 0 ≤ p1.toInt by omega)
  refine s_fbecome _ _ _ _ p0 p1 a b _ ha hb (by omega) ?_
  intro a1 a2 a3 a4 h1
  refine s_fbecome _ _ _ _ 0 1 0 1 _ z4_0 z4_1 (by omega) ?_
  intro b1 b2 b3 b4 h2
  refine s_fbecome _ _ _ _ p0 p1 a b _ ha hb (by omega) ?_
  intro c1 c2 c3 c4 h3
  exact hQ a b ha hb (by omega) (by omega) _ _ _ _ _ _ _ _ _ _ _ _ h1 h2 h3
theorem s_mbudget (man mtl mtm : Int32) (fig : Nat → Int64) (len : Nat → Int32) (top bel : Nat → Int64) (thr p0 p1 : Int32) (V : Nat → Nat)
    (Q : Int32 → Int32 → Int32 → (Nat → Int64) → (Nat → Int32) → (Nat → Int64) → (Nat → Int64) → Int32 → Prop) (h : AL fig len V)
    (h1 : ¬ pOK p0 p1 → Q man mtl mtm fig len top bel 1)
    (hQ : ∀ a b : Nat, p0.toInt = a → p1.toInt = b → 0 < b → b ≤ 1000 → ∀ f l t be V', AL f l V' → V' 0 = a / Nat.gcd a b → V' 1 = b / Nat.gcd a b → V' 2 = 0 → V' 3 = 1 → Q 0 0 0 f l t be 0) : w_X5_budget man mtl mtm fig len top bel thr p0 p1 Q := by
  unfold w_X5_budget
  refine s_noPart p0 p1 _ (fun hv => ?_) (fun hv => ?_)
  · refine ⟨fun t => t = 0, ⟨fun _ => rfl, fun c => absurd rfl c⟩, ?_⟩
    rintro t rfl
    refine ⟨fun c => absurd rfl c, fun _ => ?_⟩
    obtain ⟨a, ha⟩ := Int.eq_ofNat_of_zero_le hv.1
    obtain ⟨b, hb⟩ := Int.eq_ofNat_of_zero_le (show 0 ≤ p1.toInt by omega)
    refine s_set fig len top bel V 0 p0 p1 0 a b _ h z4_0 (by omega) ha hb (by omega) ?_
    intro f1 l1 t1 b1 V1 h1 hl1
    refine s_set f1 l1 t1 b1 V1 1 0 1 1 0 1 _ h1 z4_1 (by omega) z4_0 z4_1 (by omega) ?_
    intro f2 l2 t2 b2 V2 h2 hl2
    refine hQ a b ha hb (by omega) (by omega) _ _ _ _ V2 h2 ?_ ?_ ?_ ?_
    · rw [hl2.2.2 0 (by omega) (by omega) (by omega)]; exact hl1.1
    · rw [hl2.2.2 1 (by omega) (by omega) (by omega)]; exact hl1.2.1
    · exact hl2.1
    · exact hl2.2.1
  · refine ⟨fun t => t = 1, ⟨fun c => absurd c (by decide), fun c => rfl⟩, ?_⟩
    rintro t rfl
    exact ⟨fun _ => h1 hv, fun c => absurd c (by decide)⟩
theorem s_craise (lgu : Nat → Int32) (ngu : Int32) (lgd : Nat → Int32) (ngd : Int32) (lfu : Nat → Int32) (nfu : Int32) (lfd : Nat → Int32) (nfd p0 p1 : Int32) (K Ng Dg Nf Df : Nat) (X : Prop)
    (Q : (Nat → Int32) → Int32 → (Nat → Int32) → Int32 → (Nat → Int32) → Int32 → (Nat → Int32) → Int32 → Prop)
    (hg : fA lgu ngu lgd ngd Ng Dg) (hf : fA lfu nfu lfd nfd Nf Df) (bg : bd K Ng Dg) (bf : bd K Nf Df) (hK : K ≤ 70)
    (hX : ¬ pOK p0 p1 → X)
    (hQ : ∀ a b : Nat, p0.toInt = a → p1.toInt = b → 0 < b → b ≤ 1000 → ∀ a1 a2 a3 a4 c1 c2 c3 c4 N1 D1 N2 D2, fA a1 a2 a3 a4 N1 D1 → fA c1 c2 c3 c4 N2 D2 → bd (K + 1) N1 D1 → bd (K + 1) N2 D2 →
      N1 * (Dg * b) = (Ng * b + a * Dg) * D1 → N2 * (Df * b) = (Nf * b + a * Df) * D2 → Q a1 a2 a3 a4 c1 c2 c3 c4) :
    w_X4_raise lgu ngu lgd ngd lfu nfu lfd nfd p0 p1 X Q := by
  unfold w_X4_raise
  refine s_isGrant p0 p1 _ (fun hv => ⟨fun _ => ?_, fun c => absurd c (by decide)⟩) (fun hv => ⟨fun c => absurd rfl c, fun _ => hX hv⟩)
  obtain ⟨a, ha⟩ := Int.eq_ofNat_of_zero_le hv.1
  obtain ⟨b, hb⟩ := Int.eq_ofNat_of_zero_le (show 0 ≤ p1.toInt by omega)
  refine s_incr _ _ _ _ p0 p1 K Ng Dg a b _ hg bg hK ha hb (by omega) (by omega) ?_
  intro a1 a2 a3 a4 N1 D1 f1 b1 e1
  refine s_incr _ _ _ _ p0 p1 K Nf Df a b _ hf bf hK ha hb (by omega) (by omega) ?_
  intro c1 c2 c3 c4 N2 D2 f2 b2 e2
  exact hQ a b ha hb (by omega) (by omega) _ _ _ _ _ _ _ _ N1 D1 N2 D2 f1 f2 b1 b2 e1 e2
theorem s_madd (fig : Nat → Int64) (len : Nat → Int32) (top bel : Nat → Int64) (V : Nat → Nat) (p0 p1 pc : Int32) (c K N D a b : Nat)
    (Q : (Nat → Int64) → (Nat → Int32) → (Nat → Int64) → (Nat → Int64) → Prop) (h : AL fig len V) (hpc : pc.toInt = c) (hc : c ≤ 1) (hK : K ≤ 70) (hN : V (2 * c) = N) (hD : V (2 * c + 1) = D) (hbd : bd K N D)
    (ha : p0.toInt = a) (hb : p1.toInt = b) (hb0 : 0 < b) (hb2 : b ≤ 1000)
    (hQ : ∀ f l t be V', AL f l V' → (∀ s, s < 4 → V' s = V s) → (∀ N' D', Nat.gcd N' D' = 1 → 0 < D' → N' * (D * b) = (N * b + a * D) * D' → V' 6 = N' ∧ V' 7 = D') → Q f l t be) :
    w_X5_set fig len top bel 2 p0 p1 (fun f l t be => w_X5_add0 f l t be 3 pc 2 (fun f l t be => Q f l t be)) := by
  have r0 := q_r4 p0
  refine s_set fig len top bel V 2 p0 p1 2 a b _ h z2 (by omega) ha hb hb0 ?_
  intro f1 l1 t1 b1 V1 h1 hl1
  have e4 : V1 4 = a / Nat.gcd a b := hl1.1
  have e5 : V1 5 = b / Nat.gcd a b := hl1.2.1
  have k0 : V1 (2 * c) = N := by rw [hl1.2.2 (2 * c) (by omega) (by omega) (by omega), hN]
  have k1 : V1 (2 * c + 1) = D := by rw [hl1.2.2 (2 * c + 1) (by omega) (by omega) (by omega), hD]
  have nb := bd_new a b (by omega) hb0 hb2
  have s1 := bd_sm K N D hK hbd
  have s2 := bd_sm 1 _ _ (by omega) nb
  have gpos : 0 < Nat.gcd a b := Nat.gcd_pos_of_pos_right _ hb0
  have ea : Nat.gcd a b * (a / Nat.gcd a b) = a := Nat.mul_div_cancel' (Nat.gcd_dvd_left a b)
  have eb : Nat.gcd a b * (b / Nat.gcd a b) = b := Nat.mul_div_cancel' (Nat.gcd_dvd_right a b)
  refine s_add0 f1 l1 t1 b1 V1 3 pc 2 3 c 2 _ h1 z4_3 (by omega) hpc (by omega) z2 (by omega) (by rw [k0, k1, e4, e5]; exact ⟨s1.1, s1.2, s2.1, s2.2⟩) (by rw [k1, e5]; exact ⟨hbd.1, nb.1⟩) ?_
  intro f2 l2 t2 b2 V2 N2 D2 h2 hN2 hD2 hl2
  rw [k0, k1, e4, e5] at hN2
  rw [k1, e5] at hD2
  refine hQ _ _ _ _ V2 h2 (fun s hs => ?_) (fun N' D' hg hD' he => ?_)
  · rw [hl2.2.2 s (by omega) (by omega) (by omega), hl1.2.2 s (by omega) (by omega) (by omega)]
  · have hD2p : 0 < D2 := by rw [hD2]; exact Nat.mul_pos hbd.1 nb.1
    have key : N' * D2 = N2 * D' := by
      refine Nat.eq_of_mul_eq_mul_left gpos ?_
      rw [hN2, hD2]
      have x1 : Nat.gcd a b * (N' * (D * (b / Nat.gcd a b))) = N' * (D * (Nat.gcd a b * (b / Nat.gcd a b))) := by ac_rfl
      have x2 : Nat.gcd a b * ((N * (b / Nat.gcd a b) + a / Nat.gcd a b * D) * D') = (N * (Nat.gcd a b * (b / Nat.gcd a b)) + (Nat.gcd a b * (a / Nat.gcd a b)) * D) * D' := by
        rw [← Nat.mul_assoc, Nat.mul_add]
        congr 2 <;> ac_rfl
      rw [x1, x2, ea, eb]; exact he
    have := ratU N' D' N2 D2 hg hD' hD2p key
    exact ⟨by rw [this.1]; exact hl2.1, by rw [this.2]; exact hl2.2.1⟩
theorem z4_6 : (6 : Int32).toInt = ((6 : Nat) : Int) := by decide
theorem z4_7 : (7 : Int32).toInt = ((7 : Nat) : Int) := by decide
theorem s_mraise (fig : Nat → Int64) (len : Nat → Int32) (top bel : Nat → Int64) (thr p0 p1 : Int32) (V : Nat → Nat) (K N D : Nat)
    (Q : (Nat → Int64) → (Nat → Int32) → (Nat → Int64) → (Nat → Int64) → Int32 → Prop) (h : AL fig len V) (hK : K ≤ 70) (hN : V 0 = N) (hD : V 1 = D) (hbd : bd K N D)
    (h1 : ¬ pOK p0 p1 → Q fig len top bel 1)
    (hQ : ∀ a b : Nat, p0.toInt = a → p1.toInt = b → 0 < b → b ≤ 1000 → ∀ f l t be V', AL f l V' → V' 2 = V 2 → V' 3 = V 3 → (∀ N' D', Nat.gcd N' D' = 1 → 0 < D' → N' * (D * b) = (N * b + a * D) * D' → V' 0 = N' ∧ V' 1 = D') → Q f l t be 0) :
    w_X5_raise fig len top bel thr p0 p1 Q := by
  unfold w_X5_raise
  refine s_noPart p0 p1 _ (fun hv => ?_) (fun hv => ?_)
  · refine ⟨fun t => t = 0, ⟨fun _ => rfl, fun c => absurd rfl c⟩, ?_⟩
    rintro t rfl
    refine ⟨fun c => absurd rfl c, fun _ => ?_⟩
    obtain ⟨a, ha⟩ := Int.eq_ofNat_of_zero_le hv.1
    obtain ⟨b, hb⟩ := Int.eq_ofNat_of_zero_le (show 0 ≤ p1.toInt by omega)
    refine s_madd fig len top bel V p0 p1 0 0 K N D a b _ h z4_0 (by omega) hK hN hD hbd ha hb (by omega) (by omega) ?_
    intro f l t be V1 h1 hs hu
    refine s_copy f l V1 0 6 0 6 _ h1 z4_0 (by decide) z4_6 (by decide) (by decide) ?_
    intro f2 l2 h2
    refine s_copy f2 l2 _ 1 7 1 7 _ h2 z4_1 (by decide) z4_7 (by decide) (by decide) ?_
    intro f3 l3 h3
    refine hQ a b ha hb (by omega) (by omega) _ _ _ _ _ h3 ?_ ?_ (fun N' D' hg hD' he => ?_)
    · rw [sV_n _ _ _ _ (by decide), sV_n _ _ _ _ (by decide)]; exact hs 2 (by decide)
    · rw [sV_n _ _ _ _ (by decide), sV_n _ _ _ _ (by decide)]; exact hs 3 (by decide)
    · have := hu N' D' hg hD' he
      rw [sV_n _ 1 _ 0 (by decide), sV_e, sV_e, sV_n _ 0 _ 7 (by decide)]; exact this
  · refine ⟨fun t => t = 1, ⟨fun c => absurd c (by decide), fun c => rfl⟩, ?_⟩
    rintro t rfl
    exact ⟨fun _ => h1 hv, fun c => absurd c (by decide)⟩
def pw (x : Int64) : Nat → Int64
  | 0 => 1
  | k + 1 => pw x k * x
theorem s_pow3 (p0 p1 : Int32) (Q : Int64 → Prop) (hQ : Q (pw p0.toInt64 p1.toInt.toNat)) : w_X3_power p0 p1 Q := by
  unfold w_X3_power
  have r1 := q_r4 p1
  refine ⟨fun i x => ∃ k : Nat, k ≤ p1.toInt.toNat ∧ i.toInt = k ∧ x = pw p0.toInt64 k, fun i _ => (2147483648 - i.toInt).toNat, ⟨0, by omega, by decide, rfl⟩, ?_⟩
  rintro i x ⟨k, hk, hi, rfl⟩
  refine ⟨fun c => ?_, fun c => ?_⟩
  · rw [q_le4, hi] at c
    have : k = p1.toInt.toNat := by omega
    rw [this]; exact hQ
  · rw [q_le4, hi] at c
    rintro y rfl i5 rfl
    have e := q_inc i k hi (by omega)
    refine ⟨⟨k + 1, by omega, e, rfl⟩, ?_⟩
    simp only [e, hi]; omega
theorem s_pow5 (p0 : Int64) (p1 : Int32) (Q : Int64 → Prop) (hQ : Q (pw p0 p1.toInt.toNat)) : w_X5_power p0 p1 Q := by
  unfold w_X5_power
  have r1 := q_r4 p1
  refine ⟨fun i x => ∃ k : Nat, k ≤ p1.toInt.toNat ∧ i.toInt = k ∧ x = pw p0 k, fun i _ => (2147483648 - i.toInt).toNat, ⟨0, by omega, by decide, rfl⟩, ?_⟩
  rintro i x ⟨k, hk, hi, rfl⟩
  refine ⟨fun c => ?_, fun c => ?_⟩
  · rw [q_le4, hi] at c
    have : k = p1.toInt.toNat := by omega
    rw [this]; exact hQ
  · rw [q_le4, hi] at c
    rintro y rfl i5 rfl
    have e := q_inc i k hi (by omega)
    refine ⟨⟨k + 1, by omega, e, rfl⟩, ?_⟩
    simp only [e, hi]; omega
def allM (a b lo hi : Int32) : Int64 := (a + b).toInt64 * pw b.toInt64 (hi - lo).toInt.toNat
def dM (r o : Int32) : Int32 := if o ≤ r then r - o else o - r
def wW (a b lo hi r o : Int32) : Int64 :=
  if r < lo then 0 else if hi < r then 0 else if o < lo then 0 else if hi < o then 0 else
  if lo = hi then allM a b lo hi else
  if o = lo ∨ o = hi then pw b.toInt64 ((hi - lo) + 1 - dM r o).toInt.toNat * pw a.toInt64 (dM r o).toInt.toNat
  else ((b - a).toInt64 * pw b.toInt64 ((hi - lo) - dM r o).toInt.toNat) * pw a.toInt64 (dM r o).toInt.toNat
theorem s_allOf (a b lo hi : Int32) (Q : Int64 → Prop) (hQ : Q (allM a b lo hi)) : w_X5_allOf a b lo hi Q := by
  unfold w_X5_allOf
  refine s_pow5 _ _ _ ?_
  rintro v rfl; exact hQ
theorem s_tbecome (wa wb wlo whi : Int32) (wtot : Int64) (a b lo hi : Int32) (Q : Int32 → Int32 → Int32 → Int32 → Int64 → Prop) (hQ : Q a b lo hi (allM a b lo hi)) : w_X3_become wa wb wlo whi wtot a b lo hi Q := by
  unfold w_X3_become
  refine s_pow3 _ _ _ ?_
  rintro v rfl; exact hQ
theorem i_nlt (a b : Int32) : ¬ a < b ↔ b ≤ a := by rw [q_lt4, q_le4]; omega
theorem i_nle (a b : Int32) : ¬ a ≤ b ↔ b < a := by rw [q_lt4, q_le4]; omega
theorem s_holds (lo hi x : Int32) (Q : Int32 → Prop) (h0 : x < lo ∨ hi < x → Q 0) (h1 : ¬ x < lo → ¬ hi < x → Q 1) : w_X3_holds lo hi x Q := by
  unfold w_X3_holds
  exact ⟨fun c => h0 (Or.inl c), fun c => ⟨fun c2 => h0 (Or.inr c2), fun c2 => h1 c c2⟩⟩
theorem s_isOut (lo hi x : Int32) (Q : Int32 → Prop) (h1 : x < lo ∨ hi < x → Q 1) (h0 : ¬ x < lo → ¬ hi < x → Q 0) : w_X5_isOut lo hi x Q := by
  unfold w_X5_isOut
  exact ⟨fun c => h1 (Or.inl c), fun c => ⟨fun c2 => h0 c (by rw [i_nlt]; exact c2), fun c2 => h1 (Or.inr (by rw [← i_nle]; exact c2))⟩⟩
theorem s_weight3 (a b lo hi : Int32) (tot : Int64) (r o : Int32) (Q : Int64 → Prop) (ht : tot = allM a b lo hi) (hQ : Q (wW a b lo hi r o)) : w_X3_weightOf a b lo hi tot r o Q := by
  unfold w_X3_weightOf
  unfold wW at hQ
  refine s_holds lo hi r _ (fun c => ⟨fun _ => ?_, fun c2 => absurd rfl c2⟩) (fun c1 c2 => ⟨fun c => absurd c (by decide), fun _ => ?_⟩)
  · rcases c with c | c
    · rw [if_pos c] at hQ; exact hQ
    · by_cases c3 : r < lo
      · rw [if_pos c3] at hQ; exact hQ
      · rw [if_neg c3, if_pos c] at hQ; exact hQ
  rw [if_neg c1, if_neg c2] at hQ
  refine s_holds lo hi o _ (fun c => ⟨fun c2 => absurd rfl c2, fun _ => ?_⟩) (fun c3 c4 => ⟨fun _ => ?_, fun c => absurd c (by decide)⟩)
  · rcases c with c | c
    · rw [if_pos c] at hQ; exact hQ
    · by_cases c3 : o < lo
      · rw [if_pos c3] at hQ; exact hQ
      · rw [if_neg c3, if_pos c] at hQ; exact hQ
  rw [if_neg c3, if_neg c4] at hQ
  refine ⟨fun hne => ?_, fun he => ?_⟩
  rotate_left
  · rw [if_pos he] at hQ; rw [ht]; exact hQ
  rw [if_neg hne] at hQ
  rintro i3 rfl
  refine ⟨fun t => t = dM r o, ⟨fun c => by unfold dM; rw [if_pos c], fun c => by unfold dM; rw [if_neg c]⟩, ?_⟩
  rintro t rfl
  refine ⟨fun c5 => ?_, fun c5 => ⟨fun c6 => ?_, fun c6 => ?_⟩⟩
  · rw [if_pos (Or.inl c5)] at hQ
    rintro v rfl
    exact s_pow3 _ _ _ (s_pow3 _ _ _ hQ)
  · rw [if_neg (fun h => h.elim c5 c6)] at hQ
    refine s_pow3 _ _ _ ?_
    rintro v rfl
    exact s_pow3 _ _ _ hQ
  · rw [if_pos (Or.inr c6)] at hQ
    rintro v rfl
    exact s_pow3 _ _ _ (s_pow3 _ _ _ hQ)
theorem s_weight5 (a b lo hi : Int32) (r o : Int32) (Q : Int64 → Prop) (hQ : Q (wW a b lo hi r o)) : w_X5_weightOf a b lo hi r o Q := by
  unfold w_X5_weightOf
  unfold wW at hQ
  refine s_isOut lo hi r _ (fun c => ⟨fun _ => ?_, fun c2 => absurd c2 (by decide)⟩) (fun c1 c2 => ⟨fun c => absurd rfl c, fun _ => ?_⟩)
  · rcases c with c | c
    · rw [if_pos c] at hQ; exact hQ
    · by_cases c3 : r < lo
      · rw [if_pos c3] at hQ; exact hQ
      · rw [if_neg c3, if_pos c] at hQ; exact hQ
  rw [if_neg c1, if_neg c2] at hQ
  refine s_isOut lo hi o _ (fun c => ⟨fun c2 => absurd c2 (by decide), fun _ => ?_⟩) (fun c3 c4 => ⟨fun _ => ?_, fun c => absurd rfl c⟩)
  · rcases c with c | c
    · rw [if_pos c] at hQ; exact hQ
    · by_cases c3 : o < lo
      · rw [if_pos c3] at hQ; exact hQ
      · rw [if_neg c3, if_pos c] at hQ; exact hQ
  rw [if_neg c3, if_neg c4] at hQ
  refine ⟨fun hne => ?_, fun he => ?_⟩
  rotate_left
  · rw [if_pos he] at hQ; exact s_allOf _ _ _ _ _ hQ
  rw [if_neg hne] at hQ
  rintro i3 rfl
  refine ⟨fun t => t = dM r o, ⟨fun c => by unfold dM; rw [if_pos c], fun c => by unfold dM; rw [if_neg c]⟩, ?_⟩
  rintro t rfl
  refine ⟨fun t => t = 1 ∧ (o = lo ∨ o = hi) ∨ t = 0 ∧ ¬ (o = lo ∨ o = hi), ⟨fun c => Or.inl ⟨rfl, Or.inl c⟩, fun c => ⟨fun c2 => Or.inr ⟨rfl, fun h => h.elim c c2⟩, fun c2 => Or.inl ⟨rfl, Or.inr c2⟩⟩⟩, ?_⟩
  rintro t (⟨rfl, h⟩ | ⟨rfl, h⟩)
  · refine ⟨fun c => absurd c (by decide), fun _ => ?_⟩
    rw [if_pos h] at hQ
    rintro v rfl
    exact s_pow5 _ _ _ (s_pow5 _ _ _ hQ)
  · refine ⟨fun _ => ?_, fun c => absurd rfl c⟩
    rw [if_neg h] at hQ
    refine s_pow5 _ _ _ ?_
    rintro v rfl
    exact s_pow5 _ _ _ hQ
def tOK (a b lo hi : Int32) : Prop := 1 ≤ a.toInt ∧ a.toInt < b.toInt ∧ b.toInt ≤ 10 ∧ -1000 ≤ lo.toInt ∧ lo.toInt ≤ hi.toInt ∧ hi.toInt ≤ 1000 ∧ hi.toInt - lo.toInt ≤ 14
def oK (lo : Int32) (k : Nat) : Int32 := Int32.ofInt (lo.toInt + k)
theorem oK_t (lo : Int32) (k : Nat) (h : lo.toInt ≤ 1000) (hk : k ≤ 100) : (oK lo k).toInt = lo.toInt + k := by
  have := q_r4 lo
  unfold oK
  rw [Int32.toInt_ofInt]
  exact q_bm4 _ (by omega) (by omega)
theorem oK_e (lo i : Int32) (k : Nat) (h : lo.toInt ≤ 1000) (hk : k ≤ 100) (hi : i.toInt = lo.toInt + k) : i = oK lo k := by
  rw [q_eq4, oK_t lo k h hk, hi]
def sumM (a b lo hi r : Int32) : Nat → Int64
  | 0 => 0
  | k + 1 => sumM a b lo hi r k + wW a b lo hi r (oK lo k)
theorem v_inc4 (i : Int32) (x : Int) (h : i.toInt = x) (h1 : -2147483648 ≤ x) (h2 : x < 2147483647) : (i + 1).toInt = x + 1 := by
  rw [v_add4 h z4_1 (by omega) (by omega)]
def kM (lo hi p : Int32) : Nat := ((if hi.toInt ≤ p.toInt then hi.toInt else p.toInt) - lo.toInt + 1).toNat
theorem s_sum3 (a b lo hi : Int32) (tot : Int64) (r p : Int32) (Q : Int64 → Prop) (hT : tOK a b lo hi) (ht : tot = allM a b lo hi) (hQ : Q (sumM a b lo hi r (kM lo hi p))) : w_X3_sumTo a b lo hi tot r p Q := by
  unfold w_X3_sumTo
  obtain ⟨t1, t2, t3, t4, t5, t6, t7⟩ := hT
  have hK : kM lo hi p = ((if hi.toInt ≤ p.toInt then hi.toInt else p.toInt) - lo.toInt + 1).toNat := rfl
  generalize kM lo hi p = K at *
  refine ⟨fun i x => ∃ k : Nat, k ≤ K ∧ k ≤ 15 ∧ i.toInt = lo.toInt + k ∧ x = sumM a b lo hi r k, fun i _ => (3000 - i.toInt).toNat, ⟨0, by omega, by omega, by omega, rfl⟩, ?_⟩
  rintro i x ⟨k, hk, hk15, hi', rfl⟩
  refine ⟨fun c => ?_, fun c => ⟨fun c2 => ?_, fun c2 => ?_⟩⟩
  · rw [q_lt4] at c
    have : k = K := by split at hK <;> omega
    rw [this]; exact hQ
  · rw [q_lt4] at c2
    have : k = K := by split at hK <;> omega
    rw [this]; exact hQ
  · rw [q_lt4] at c c2
    have e := oK_e lo i k (by omega) (by omega) hi'
    refine s_weight3 a b lo hi tot r i _ ht ?_
    rintro y rfl i5 rfl
    have e2 := v_inc4 i _ hi' (by omega) (by omega)
    refine ⟨⟨k + 1, by split at hK <;> omega, by omega, by rw [e2]; omega, by rw [e]; rfl⟩, ?_⟩
    simp only [e2, hi']; omega
theorem s_sum5 (a b lo hi : Int32) (thr r p : Int32) (Q : Int64 → Int32 → Prop) (hT : tOK a b lo hi) (hQ : Q (sumM a b lo hi r (kM lo hi p)) 0) : w_X5_upTo a b lo hi thr r p Q := by
  unfold w_X5_upTo
  obtain ⟨t1, t2, t3, t4, t5, t6, t7⟩ := hT
  have hK : kM lo hi p = ((if hi.toInt ≤ p.toInt then hi.toInt else p.toInt) - lo.toInt + 1).toNat := rfl
  generalize kM lo hi p = K at *
  refine ⟨fun i x => ∃ k : Nat, k ≤ K ∧ k ≤ 15 ∧ i.toInt = lo.toInt + k ∧ x = sumM a b lo hi r k, fun i _ => (3000 - i.toInt).toNat, ⟨0, by omega, by omega, by omega, rfl⟩, ?_⟩
  rintro i x ⟨k, hk, hk15, hi', rfl⟩
  refine ⟨fun c => ?_, fun c => ⟨fun c2 => ?_, fun c2 => ?_⟩⟩
  · rw [q_lt4] at c
    have : k = K := by split at hK <;> omega
    rw [this]; exact hQ
  · rw [q_lt4] at c2
    have : k = K := by split at hK <;> omega
    rw [this]; exact hQ
  · rw [q_lt4] at c c2
    have e := oK_e lo i k (by omega) (by omega) hi'
    refine s_weight5 a b lo hi r i _ ?_
    rintro y rfl i5 rfl
    have e2 := v_inc4 i _ hi' (by omega) (by omega)
    refine ⟨⟨k + 1, by split at hK <;> omega, by omega, by rw [e2]; omega, by rw [e]; rfl⟩, ?_⟩
    simp only [e2, hi']; omega
def nearM (a b lo hi r r' : Int32) : Prop := ∀ k : Nat, lo.toInt + k ≤ hi.toInt → a.toInt64 * wW a b lo hi r (oK lo k) ≤ b.toInt64 * wW a b lo hi r' (oK lo k)
theorem s_near3 (a b lo hi : Int32) (tot : Int64) (r p : Int32) (Q : Int32 → Prop) (hT : tOK a b lo hi) (ht : tot = allM a b lo hi) (h1 : nearM a b lo hi r p → Q 1) (h0 : ¬ nearM a b lo hi r p → Q 0) : w_X3_isWithinRatio a b lo hi tot r p Q := by
  unfold w_X3_isWithinRatio
  obtain ⟨t1, t2, t3, t4, t5, t6, t7⟩ := hT
  refine ⟨fun i => ∃ k : Nat, k ≤ 15 ∧ i.toInt = lo.toInt + k ∧ ∀ j, j < k → a.toInt64 * wW a b lo hi r (oK lo j) ≤ b.toInt64 * wW a b lo hi p (oK lo j), fun i => (3000 - i.toInt).toNat, ⟨0, by omega, by omega, fun j hj => absurd hj (by omega)⟩, ?_⟩
  rintro i ⟨k, hk15, hi', hd⟩
  refine ⟨fun c => ?_, fun c => ?_⟩
  · rw [q_lt4] at c
    exact h1 (fun j hj => hd j (by omega))
  · rw [q_lt4] at c
    have e := oK_e lo i k (by omega) (by omega) hi'
    refine s_weight3 a b lo hi tot r i _ ht (s_weight3 a b lo hi tot p i _ ht ⟨fun c2 => ?_, fun c2 => ?_⟩)
    · rw [e] at c2
      rintro i5 rfl
      have e2 := v_inc4 i _ hi' (by omega) (by omega)
      refine ⟨⟨k + 1, by omega, by rw [e2]; omega, fun j hj => ?_⟩, ?_⟩
      · by_cases cj : j = k
        · rw [cj]; exact c2
        · exact hd j (by omega)
      · simp only [e2, hi']; omega
    · rw [e] at c2
      exact h0 (fun h => c2 (h k (by omega)))
theorem s_near5 (a b lo hi : Int32) (thr r p : Int32) (Q : Int32 → Int32 → Prop) (hT : tOK a b lo hi)
    (ht : (r < lo ∨ hi < r) ∨ (p < lo ∨ hi < p) → Q 0 1)
    (h1 : ¬ ((r < lo ∨ hi < r) ∨ (p < lo ∨ hi < p)) → nearM a b lo hi r p → Q 1 0) (h0 : ¬ ((r < lo ∨ hi < r) ∨ (p < lo ∨ hi < p)) → ¬ nearM a b lo hi r p → Q 0 0) : w_X5_isNear a b lo hi thr r p Q := by
  unfold w_X5_isNear
  obtain ⟨t1, t2, t3, t4, t5, t6, t7⟩ := hT
  have main : ∀ t2 : Int32, (t2 = 1 ∧ ((r < lo ∨ hi < r) ∨ (p < lo ∨ hi < p)) ∨ t2 = 0 ∧ ¬ ((r < lo ∨ hi < r) ∨ (p < lo ∨ hi < p))) → ∀ t7 : Int32, (t2 = 0 ∧ t7 = 1 ∨ t2 = 1 ∧ t7 = 0) →
      ∃ (I44_12 : Int32 → Int32 → Prop) (μ44_12 : Int32 → Int32 → Nat), I44_12 lo t7 ∧ ∀ (i4_10 : Int32) (i3_11 : Int32), I44_12 i4_10 i3_11 →
        ((hi < i4_10 →
          wB i3_11 ∧ Q i3_11 t2
         ) ∧ (¬ hi < i4_10 →
          ((i3_11 = 0 →
            wB i3_11 ∧ Q i3_11 t2
           ) ∧ (¬ i3_11 = 0 →
            w_X5_weightOf a b lo hi r i4_10 (fun (r_13 : Int64) =>
            w_X5_weightOf a b lo hi p i4_10 (fun (r_14 : Int64) =>
            (((r_14 * b.toInt64) < (r_13 * a.toInt64) →
              ∀ (i4_15 : Int32), i4_15 = i4_10 + 1 →
              I44_12 i4_15 0 ∧ μ44_12 i4_15 0 < μ44_12 i4_10 i3_11
             ) ∧ (¬ (r_14 * b.toInt64) < (r_13 * a.toInt64) →
              ∀ (i4_16 : Int32), i4_16 = i4_10 + 1 →
              I44_12 i4_16 1 ∧ μ44_12 i4_16 1 < μ44_12 i4_10 i3_11
             ))))
           ))
         )) := by
    rintro t2 h2 t7 (⟨rfl, rfl⟩ | ⟨rfl, rfl⟩)
    · have hn : ¬ ((r < lo ∨ hi < r) ∨ (p < lo ∨ hi < p)) := by
        rcases h2 with ⟨h, _⟩ | ⟨_, h⟩
        · exact absurd h (by decide)
        · exact h
      refine ⟨fun i f => ∃ k : Nat, k ≤ 15 ∧ i.toInt = lo.toInt + k ∧ (f = 1 ∧ (∀ j, j < k → a.toInt64 * wW a b lo hi r (oK lo j) ≤ b.toInt64 * wW a b lo hi p (oK lo j)) ∨ f = 0 ∧ ¬ nearM a b lo hi r p), fun i _ => (3000 - i.toInt).toNat, ⟨0, by omega, by omega, Or.inl ⟨rfl, fun j hj => absurd hj (by omega)⟩⟩, ?_⟩
      rintro i f ⟨k, hk15, hi', hd⟩
      refine ⟨fun c => ?_, fun c => ⟨fun c1 => ?_, fun c1 => ?_⟩⟩
      · rw [q_lt4] at c
        rcases hd with ⟨rfl, hd⟩ | ⟨rfl, hd⟩
        · exact ⟨Or.inr rfl, h1 hn (fun j hj => hd j (by omega))⟩
        · exact ⟨Or.inl rfl, h0 hn hd⟩
      · rcases hd with ⟨rfl, hd⟩ | ⟨rfl, hd⟩
        · exact absurd c1 (by decide)
        · exact ⟨Or.inl rfl, h0 hn hd⟩
      · rw [q_lt4] at c
        have e := oK_e lo i k (by omega) (by omega) hi'
        have e2 := v_inc4 i _ hi' (by omega) (by omega)
        have mm : (3000 - (i + 1).toInt).toNat < (3000 - i.toInt).toNat := by rw [e2, hi']; omega
        rcases hd with ⟨rfl, hd⟩ | ⟨rfl, hd⟩
        rotate_left
        · exact absurd rfl c1
        have cl : ∀ x y : Int64, ¬ (x < y) → y ≤ x := by intro x y h; rw [q_lt8] at h; rw [q_le8]; omega
        have cl2 : ∀ x y : Int64, x < y → ¬ y ≤ x := by intro x y h; rw [q_lt8] at h; rw [q_le8]; omega
        refine s_weight5 a b lo hi r i _ (s_weight5 a b lo hi p i _ ⟨fun c2 => ?_, fun c2 => ?_⟩)
        · rw [e] at c2
          rintro i5 rfl
          refine ⟨⟨k + 1, by omega, by rw [e2]; omega, Or.inr ⟨rfl, fun h => ?_⟩⟩, mm⟩
          have := cl2 _ _ c2
          rw [Int64.mul_comm, Int64.mul_comm (wW a b lo hi p (oK lo k))] at this
          exact this (h k (by omega))
        · rw [e] at c2
          rintro i5 rfl
          refine ⟨⟨k + 1, by omega, by rw [e2]; omega, Or.inl ⟨rfl, fun j hj => ?_⟩⟩, mm⟩
          by_cases cj : j = k
          · rw [cj]
            have := cl _ _ c2
            rw [Int64.mul_comm, Int64.mul_comm (wW a b lo hi p (oK lo k))] at this
            exact this
          · exact hd j (by omega)
    · have hn : ((r < lo ∨ hi < r) ∨ (p < lo ∨ hi < p)) := by
        rcases h2 with ⟨_, h⟩ | ⟨h, _⟩
        · exact h
        · exact absurd h (by decide)
      refine ⟨fun i f => f = 0, fun i _ => 0, rfl, ?_⟩
      rintro i f rfl
      exact ⟨fun _ => ⟨Or.inl rfl, ht hn⟩, fun _ => ⟨fun _ => ⟨Or.inl rfl, ht hn⟩, fun c => absurd rfl c⟩⟩
  have j37 : ∀ t2 : Int32, (t2 = 1 ∧ ((r < lo ∨ hi < r) ∨ (p < lo ∨ hi < p)) ∨ t2 = 0 ∧ ¬ ((r < lo ∨ hi < r) ∨ (p < lo ∨ hi < p))) →
      (¬ t2 = 0 → (t2 = 0 ∧ (0 : Int32) = 1 ∨ t2 = 1 ∧ (0 : Int32) = 0)) ∧ (t2 = 0 → (t2 = 0 ∧ (1 : Int32) = 1 ∨ t2 = 1 ∧ (1 : Int32) = 0)) := by
    intro t2 h
    refine ⟨fun c => ?_, fun c => Or.inl ⟨c, rfl⟩⟩
    rcases h with ⟨h, _⟩ | ⟨h, _⟩
    · exact Or.inr ⟨h, rfl⟩
    · exact absurd h c
  refine s_isOut lo hi r _ (fun c => ?_) (fun c1 c2 => ?_)
  · refine ⟨fun t => t = 1 ∧ ((r < lo ∨ hi < r) ∨ (p < lo ∨ hi < p)) ∨ t = 0 ∧ ¬ ((r < lo ∨ hi < r) ∨ (p < lo ∨ hi < p)), ⟨fun _ => Or.inl ⟨rfl, Or.inl c⟩, fun c => absurd c (by decide)⟩, ?_⟩
    intro t2 h2
    exact ⟨fun t7 => t2 = 0 ∧ t7 = 1 ∨ t2 = 1 ∧ t7 = 0, j37 t2 h2, fun t7 h7 => main t2 h2 t7 h7⟩
  · refine ⟨fun t => t = 1 ∧ ((r < lo ∨ hi < r) ∨ (p < lo ∨ hi < p)) ∨ t = 0 ∧ ¬ ((r < lo ∨ hi < r) ∨ (p < lo ∨ hi < p)), ⟨fun c => absurd rfl c, fun _ => ?_⟩, ?_⟩
    · refine s_isOut lo hi p _ (fun c => ⟨fun c => absurd c (by decide), fun _ => Or.inl ⟨rfl, Or.inr c⟩⟩) (fun c3 c4 => ⟨fun _ => Or.inr ⟨rfl, ?_⟩, fun c => absurd rfl c⟩)
      rintro ((h | h) | (h | h))
      · exact c1 h
      · exact c2 h
      · exact c3 h
      · exact c4 h
    · intro t2 h2
      exact ⟨fun t7 => t2 = 0 ∧ t7 = 1 ∨ t2 = 1 ∧ t7 = 0, j37 t2 h2, fun t7 h7 => main t2 h2 t7 h7⟩
def FM (a b : Int32) (n t : Nat) : Int64 := pw b.toInt64 (n + 1 - t) * pw a.toInt64 t
theorem t64_sub (a b : Int32) (h1 : 0 ≤ a.toInt) (h2 : a.toInt ≤ 10) (h3 : 0 ≤ b.toInt) (h4 : b.toInt ≤ 10) : (b - a).toInt64 = b.toInt64 - a.toInt64 := by
  rw [q_eq8, q_48, v_sub4 rfl rfl (by omega) (by omega), v_sub8 (q_48 b) (q_48 a) (by omega) (by omega)]
theorem t64_add (a b : Int32) (h1 : 0 ≤ a.toInt) (h2 : a.toInt ≤ 10) (h3 : 0 ≤ b.toInt) (h4 : b.toInt ≤ 10) : (a + b).toInt64 = a.toInt64 + b.toInt64 := by
  rw [q_eq8, q_48, v_add4 rfl rfl (by omega) (by omega), v_add8 (q_48 a) (q_48 b) (by omega) (by omega)]
theorem FM_mid (a b : Int32) (n t : Nat) (ht : t ≤ n) : (b.toInt64 - a.toInt64) * pw b.toInt64 (n - t) * pw a.toInt64 t = FM a b n t - FM a b n (t + 1) := by
  unfold FM
  have e1 : n + 1 - t = (n - t) + 1 := by omega
  have e2 : n + 1 - (t + 1) = n - t := by omega
  rw [e1, e2]
  simp only [pw]
  generalize pw b.toInt64 (n - t) = X
  generalize pw a.toInt64 t = Y
  grind
theorem dM_t (lo r o : Int32) (i k : Nat) (h : -1000 ≤ lo.toInt) (h' : lo.toInt ≤ 1000) (hr : r.toInt = lo.toInt + i) (ho : o.toInt = lo.toInt + k) (hi : i ≤ 14) (hk : k ≤ 14) : (dM r o).toInt = (if k ≤ i then ((i - k : Nat) : Int) else ((k - i : Nat) : Int)) := by
  unfold dM
  by_cases c : k ≤ i
  · rw [if_pos (show o ≤ r by rw [q_le4, hr, ho]; omega), if_pos c, v_sub4 hr ho (by omega) (by omega)]; omega
  · rw [if_neg (show ¬ o ≤ r by rw [q_le4, hr, ho]; omega), if_neg c, v_sub4 ho hr (by omega) (by omega)]; omega
theorem wW_at (a b lo hi r : Int32) (n i k : Nat) (hT : tOK a b lo hi) (hn : hi.toInt = lo.toInt + n) (hr : r.toInt = lo.toInt + i) (hi2 : i ≤ n) (hk : k ≤ n) (hn0 : 0 < n) :
    wW a b lo hi r (oK lo k) = if k = 0 ∨ k = n then FM a b n (if k ≤ i then i - k else k - i) else FM a b n (if k ≤ i then i - k else k - i) - FM a b n ((if k ≤ i then i - k else k - i) + 1) := by
  obtain ⟨t1, t2, t3, t4, t5, t6, t7⟩ := hT
  have ho := oK_t lo k (by omega) (by omega)
  have hd := dM_t lo r (oK lo k) i k t4 (by omega) hr ho (by omega) (by omega)
  have hw : (hi - lo).toInt = (n : Int) := by rw [v_sub4 hn rfl (by omega) (by omega)]; omega
  have hd' : (dM r (oK lo k)).toInt = (((if k ≤ i then i - k else k - i) : Nat) : Int) := by rw [hd]; split <;> rfl
  have hdn : (if k ≤ i then i - k else k - i) ≤ n := by split <;> omega
  have hdn1 : ¬ (k = 0 ∨ k = n) → (if k ≤ i then i - k else k - i) + 1 ≤ n := by intro h; split <;> omega
  generalize (if k ≤ i then i - k else k - i) = d at *
  have e1 : ((hi - lo) + 1 - dM r (oK lo k)).toInt.toNat = n + 1 - d := by
    have h1 := v_inc4 (hi - lo) _ hw (by omega) (by omega)
    rw [v_sub4 h1 hd' (by omega) (by omega)]; omega
  have e2 : ((hi - lo) - dM r (oK lo k)).toInt.toNat = n - d := by
    rw [v_sub4 hw hd' (by omega) (by omega)]; omega
  have e3 : (dM r (oK lo k)).toInt.toNat = d := by rw [hd']; rfl
  unfold wW
  have c1 : ¬ r < lo := by rw [q_lt4, hr]; omega
  have c2 : ¬ hi < r := by rw [q_lt4, hr, hn]; omega
  have c3 : ¬ oK lo k < lo := by rw [q_lt4, ho]; omega
  have c4 : ¬ hi < oK lo k := by rw [q_lt4, ho, hn]; omega
  have c5 : ¬ lo = hi := by rw [q_eq4, hn]; omega
  have c6 : (oK lo k = lo ∨ oK lo k = hi) ↔ (k = 0 ∨ k = n) := by rw [q_eq4 (oK lo k) lo, q_eq4 (oK lo k) hi, ho, hn]; omega
  rw [if_neg c1, if_neg c2, if_neg c3, if_neg c4, if_neg c5, e1, e2, e3]
  by_cases c : k = 0 ∨ k = n
  · rw [if_pos c, if_pos (c6.mpr c)]; rfl
  · rw [if_neg c, if_neg (fun h => c (c6.mp h)), t64_sub a b (by omega) (by omega) (by omega) (by omega), FM_mid a b n d hdn]
theorem sumM_part (a b lo hi r : Int32) (n i k : Nat) (hT : tOK a b lo hi) (hn : hi.toInt = lo.toInt + n) (hr : r.toInt = lo.toInt + i) (hi2 : i ≤ n) (hk : k + 1 ≤ n) (hn0 : 0 < n) :
    sumM a b lo hi r (k + 1) = if k + 1 ≤ i then FM a b n (i - k) else FM a b n 0 + FM a b n 1 - FM a b n (k + 1 - i) := by
  induction k with
  | zero =>
    simp only [sumM]
    rw [wW_at a b lo hi r n i 0 hT hn hr hi2 (by omega) hn0, if_pos (Or.inl rfl), if_pos (by omega)]
    by_cases c : 0 + 1 ≤ i
    · rw [if_pos c]; grind
    · rw [if_neg c]
      have : i = 0 := by omega
      subst this
      grind
  | succ m ih =>
    have e0 : sumM a b lo hi r (m + 1 + 1) = sumM a b lo hi r (m + 1) + wW a b lo hi r (oK lo (m + 1)) := rfl
    rw [e0, ih (by omega), wW_at a b lo hi r n i (m + 1) hT hn hr hi2 (by omega) hn0, if_neg (show ¬ (m + 1 = 0 ∨ m + 1 = n) by omega)]
    by_cases c : m + 1 + 1 ≤ i
    · rw [if_pos c, if_pos (show m + 1 ≤ i by omega), if_pos (show m + 1 ≤ i by omega)]
      have e1 : i - (m + 1) + 1 = i - m := by omega
      rw [e1]; grind
    · rw [if_neg c]
      by_cases c2 : m + 1 ≤ i
      · rw [if_pos c2, if_pos c2]
        have e1 : i = m + 1 := by omega
        subst e1
        have e2 : m + 1 - m = 1 := by omega
        have e3 : m + 1 - (m + 1) = 0 := by omega
        have e4 : m + 1 + 1 - (m + 1) = 1 := by omega
        rw [e2, e3, e4]; grind
      · rw [if_neg c2, if_neg c2]
        have e1 : m + 1 - i + 1 = m + 1 + 1 - i := by omega
        rw [e1]; grind
theorem sumM_all (a b lo hi r : Int32) (n i : Nat) (hT : tOK a b lo hi) (hn : hi.toInt = lo.toInt + n) (hr : r.toInt = lo.toInt + i) (hi2 : i ≤ n) : sumM a b lo hi r (n + 1) = allM a b lo hi := by
  have hT' := hT
  obtain ⟨t1, t2, t3, t4, t5, t6, t7⟩ := hT'
  have hw : (hi - lo).toInt = (n : Int) := by rw [v_sub4 hn rfl (by omega) (by omega)]; omega
  by_cases c : n = 0
  · subst c
    have hi0 : i = 0 := by omega
    subst hi0
    have ho := oK_t lo 0 (by omega) (by omega)
    have e : sumM a b lo hi r (0 + 1) = 0 + wW a b lo hi r (oK lo 0) := rfl
    rw [e]
    unfold wW
    have c1 : ¬ r < lo := by rw [q_lt4, hr]; omega
    have c2 : ¬ hi < r := by rw [q_lt4, hr, hn]; omega
    have c3 : ¬ oK lo 0 < lo := by rw [q_lt4, ho]; omega
    have c4 : ¬ hi < oK lo 0 := by rw [q_lt4, ho, hn]; omega
    have c5 : lo = hi := by rw [q_eq4, hn]; omega
    rw [if_neg c1, if_neg c2, if_neg c3, if_neg c4, if_pos c5, Int64.zero_add]
  · obtain ⟨m, rfl⟩ : ∃ m, n = m + 1 := ⟨n - 1, by omega⟩
    have e : sumM a b lo hi r (m + 1 + 1) = sumM a b lo hi r (m + 1) + wW a b lo hi r (oK lo (m + 1)) := rfl
    rw [e, sumM_part a b lo hi r (m + 1) i m hT hn hr hi2 (by omega) (by omega), wW_at a b lo hi r (m + 1) i (m + 1) hT hn hr hi2 (by omega) (by omega), if_pos (Or.inr rfl)]
    have hall : allM a b lo hi = FM a b (m + 1) 0 + FM a b (m + 1) 1 := by
      unfold allM FM
      rw [hw, t64_add a b (by omega) (by omega) (by omega) (by omega)]
      have e1 : m + 1 + 1 - 0 = (m + 1) + 1 := by omega
      have e2 : m + 1 + 1 - 1 = m + 1 := by omega
      rw [Int.toNat_natCast, e1, e2]
      simp only [pw]
      generalize pw b.toInt64 m * b.toInt64 = X
      grind
    rw [hall]
    by_cases c2 : m + 1 ≤ i
    · rw [if_pos c2, if_pos c2]
      have e1 : i = m + 1 := by omega
      subst e1
      have e2 : m + 1 - m = 1 := by omega
      have e3 : m + 1 - (m + 1) = 0 := by omega
      rw [e2, e3]; grind
    · rw [if_neg c2, if_neg c2]; grind
def oM (a b lo hi r : Int32) (coin : Int64) (k : Nat) : Prop := lo.toInt + k ≤ hi.toInt ∧ coin < sumM a b lo hi r (k + 1) ∧ ∀ j, j < k → sumM a b lo hi r (j + 1) ≤ coin
theorem oM_u (a b lo hi r : Int32) (coin : Int64) (k k' : Nat) (h : oM a b lo hi r coin k) (h' : oM a b lo hi r coin k') : k = k' := by
  have cl2 : ∀ x y : Int64, x < y → ¬ y ≤ x := by intro x y h; rw [q_lt8] at h; rw [q_le8]; omega
  rcases Nat.lt_trichotomy k k' with c | c | c
  · exact absurd (h'.2.2 k c) (cl2 _ _ h.2.1)
  · exact c
  · exact absurd (h.2.2 k' c) (cl2 _ _ h'.2.1)
theorem s_outcome (a b lo hi : Int32) (tot : Int64) (r : Int32) (coin : Int64) (Q : Int32 → Prop) (hT : tOK a b lo hi) (ht : tot = allM a b lo hi) (hlo : lo.toInt ≤ r.toInt) (hhi : r.toInt ≤ hi.toInt) (hc : coin < allM a b lo hi)
    (hQ : ∀ k x, oM a b lo hi r coin k → x = oK lo k → Q x) : w_X3_outcomeOf a b lo hi tot r coin Q := by
  unfold w_X3_outcomeOf
  have hT' := hT
  obtain ⟨t1, t2, t3, t4, t5, t6, t7⟩ := hT'
  obtain ⟨n, hn⟩ := Int.eq_ofNat_of_zero_le (show 0 ≤ hi.toInt - lo.toInt by omega)
  obtain ⟨i0, hi0⟩ := Int.eq_ofNat_of_zero_le (show 0 ≤ r.toInt - lo.toInt by omega)
  have hall := sumM_all a b lo hi r n i0 hT (by omega) (by omega) (by omega)
  have cl : ∀ x y : Int64, ¬ (x ≤ y) → y < x := by intro x y h; rw [q_le8] at h; rw [q_lt8]; omega
  refine ⟨fun i x => ∃ k : Nat, k ≤ n ∧ i.toInt = lo.toInt + k ∧ x = sumM a b lo hi r k ∧ ∀ j, j < k → sumM a b lo hi r (j + 1) ≤ coin, fun i _ => (3000 - i.toInt).toNat, ⟨0, by omega, by omega, rfl, fun j hj => absurd hj (by omega)⟩, ?_⟩
  rintro i x ⟨k, hk, hi', rfl, hd⟩
  have e := oK_e lo i k (by omega) (by omega) hi'
  refine ⟨fun c => ?_, fun c => ?_⟩
  · rw [q_le4] at c
    have hkn : k = n := by omega
    have ehi : hi = oK lo k := oK_e lo hi k (by omega) (by omega) (by omega)
    rw [hkn] at hd
    exact hQ k hi ⟨by omega, by rw [hkn, hall]; exact hc, by rw [hkn]; exact hd⟩ ehi
  · rw [q_le4] at c
    refine s_weight3 a b lo hi tot r i _ ht ?_
    rintro y rfl
    have ey : sumM a b lo hi r k + wW a b lo hi r i = sumM a b lo hi r (k + 1) := by rw [e]; rfl
    rw [ey]
    refine ⟨fun c2 => ?_, fun c2 => ?_⟩
    · rintro i6 rfl
      have e2 := v_inc4 i _ hi' (by omega) (by omega)
      refine ⟨⟨k + 1, by omega, by rw [e2]; omega, rfl, fun j hj => ?_⟩, ?_⟩
      · by_cases cj : j = k
        · rw [cj]; exact c2
        · exact hd j (by omega)
      · simp only [e2, hi']; omega
    · exact hQ k i ⟨by omega, cl _ _ c2, hd⟩ e
theorem s_drawn (a b lo hi : Int32) (r : Int32) (coin : Int64) (Q : Int32 → Prop) (hT : tOK a b lo hi) (hlo : lo.toInt ≤ r.toInt) (hhi : r.toInt ≤ hi.toInt) (hc : coin < allM a b lo hi)
    (hQ : ∀ k x, oM a b lo hi r coin k → x = oK lo k → Q x) : w_X5_drawn a b lo hi r coin Q := by
  unfold w_X5_drawn
  have hT' := hT
  obtain ⟨t1, t2, t3, t4, t5, t6, t7⟩ := hT'
  obtain ⟨n, hn⟩ := Int.eq_ofNat_of_zero_le (show 0 ≤ hi.toInt - lo.toInt by omega)
  obtain ⟨i0, hi0⟩ := Int.eq_ofNat_of_zero_le (show 0 ≤ r.toInt - lo.toInt by omega)
  have hall := sumM_all a b lo hi r n i0 hT (by omega) (by omega) (by omega)
  have cl : ∀ x y : Int64, ¬ (x < y) → y ≤ x := by intro x y h; rw [q_lt8] at h; rw [q_le8]; omega
  have e0 : lo = oK lo 0 := oK_e lo lo 0 (by omega) (by omega) (by omega)
  refine s_weight5 a b lo hi r lo _ ?_
  refine ⟨fun x i => ∃ k : Nat, k ≤ n ∧ i.toInt = lo.toInt + k ∧ x = sumM a b lo hi r (k + 1) ∧ ∀ j, j < k → sumM a b lo hi r (j + 1) ≤ coin, fun _ i => (3000 - i.toInt).toNat, ⟨0, by omega, by omega, ?_, fun j hj => absurd hj (by omega)⟩, ?_⟩
  · have : sumM a b lo hi r (0 + 1) = 0 + wW a b lo hi r (oK lo 0) := rfl
    rw [this, ← e0, Int64.zero_add]
  rintro x i ⟨k, hk, hi', rfl, hd⟩
  have e := oK_e lo i k (by omega) (by omega) hi'
  refine ⟨fun c => ?_, fun c => ?_⟩
  · exact hQ k i ⟨by omega, c, hd⟩ e
  · have hkn : k ≠ n := by
      rintro rfl
      rw [hall] at c; exact c hc
    rintro i5 rfl
    have e2 := v_inc4 i _ hi' (by omega) (by omega)
    have e5 := oK_e lo (i + 1) (k + 1) (by omega) (by omega) (by rw [e2]; omega)
    refine s_weight5 a b lo hi r (i + 1) _ ?_
    rintro y rfl
    refine ⟨⟨k + 1, by omega, by rw [e2]; omega, by rw [e5]; rfl, fun j hj => ?_⟩, ?_⟩
    · by_cases cj : j = k
      · rw [cj]; exact cl _ _ c
      · exact hd j (by omega)
    · simp only [e2, hi']; omega
theorem s_hasCoin (tot coin : Int64) (Q : Int32 → Prop) (h1 : ¬ coin < 0 ∧ coin < tot → Q 1) (h0 : ¬ (¬ coin < 0 ∧ coin < tot) → Q 0) : w_X3_hasCoin tot coin Q := by
  unfold w_X3_hasCoin
  refine ⟨fun c => h0 (fun h => h.1 c), fun c => ⟨fun c2 => h0 (fun h => ?_), fun c2 => h1 ⟨c, ?_⟩⟩⟩
  · have := h.2; rw [q_lt8] at this; rw [q_le8] at c2; omega
  · rw [q_le8] at c2; rw [q_lt8]; omega
theorem s_noCoin (a b lo hi : Int32) (coin : Int64) (Q : Int32 → Prop) (h0 : ¬ coin < 0 ∧ coin < allM a b lo hi → Q 0) (h1 : ¬ (¬ coin < 0 ∧ coin < allM a b lo hi) → Q 1) : w_X5_noCoin a b lo hi coin Q := by
  unfold w_X5_noCoin
  refine ⟨fun c => h1 (fun h => h.1 c), fun c => s_allOf _ _ _ _ _ ⟨fun c2 => h0 ⟨c, c2⟩, fun c2 => h1 (fun h => c2 h.2)⟩⟩
def RW (row : Nat → Int32) (rc : Int32) (mrow : Nat → Int32) (mrs : Int32) : Prop := ∃ n : Nat, n ≤ 60 ∧ rc.toInt = n ∧ mrs = rc ∧ ∀ j, j < n → row j = mrow j
theorem z60 : (60 : Int32).toInt = 60 := by decide
theorem o_add (row : Nat → Int32) (rc : Int32) (mrow : Nat → Int32) (mrs thr x : Int32) (P : Prop) (Q : Int32 → (Nat → Int32) → Int32 → Int32 → (Nat → Int32) → Int32 → Int32 → Prop) (h : RW row rc mrow mrs) (hP : P)
    (hQ : ∀ r row' rc' mrow' mrs', RW row' rc' mrow' mrs' → Q r row' rc' r mrow' mrs' 0) :
    w_X4_add row rc x (fun r row' rc' => P ∧ w_X5_add mrow mrs thr x (fun r' mrow' mrs' thr' => Q r row' rc' r' mrow' mrs' thr')) := by
  obtain ⟨n, hn, hrc, rfl, hj⟩ := h
  unfold w_X4_add w_X5_add
  rw [q_lt4, q_lt4, hrc, z4_0, z60]
  refine ⟨fun c => absurd c (by omega), fun _ => ⟨fun c => ⟨q_in _ _ (by omega) (by omega), ?_⟩, fun c => ⟨hP, fun c2 => absurd ?_ c2, fun _ => hQ _ _ _ _ _ ⟨n, hn, hrc, rfl, hj⟩⟩⟩⟩
  · intro row1 e1 rc2 e2
    refine ⟨hP, fun c2 => ⟨q_in _ _ (by omega) (by omega), ?_⟩, fun c2 => absurd c2 ?_⟩
    · intro mrow1 e3 mrs2 e4
      rw [e2, e4]
      refine hQ _ _ _ _ _ ⟨n + 1, by omega, q_inc _ n hrc (by omega), rfl, fun j hjn => ?_⟩
      rw [e1, e3, q_ix _ n hrc]
      by_cases cj : j = n
      · subst cj; rw [upd_e, upd_e]
      · rw [upd_n _ _ _ _ cj, upd_n _ _ _ _ cj]; exact hj j (by omega)
    · rw [q_eq4, hrc, z60]; omega
  · rw [q_eq4, hrc, z60]; omega
def rmA (row row' : Nat → Int32) (n p : Nat) : Prop := ∀ j, j < n - 1 → row' j = if j < p then row j else row (j + 1)
theorem s_cremove (row : Nat → Int32) (rc x : Int32) (n : Nat) (X : Prop) (Q : Int32 → (Nat → Int32) → Int32 → Prop) (hn : n ≤ 60) (hrc : rc.toInt = n)
    (hX : ¬ (0 ≤ x.toInt ∧ x.toInt < n) → X) (hQ : ∀ p : Nat, x.toInt = p → p < n → ∀ row', rmA row row' n p → Q (row p) row' (rc - 1)) : w_X4_remove row rc x X Q := by
  unfold w_X4_remove
  refine ⟨fun c => hX ?_, fun c => ⟨fun c2 => hX ?_, fun c2 => ⟨fun c3 => ⟨?_, ?_⟩, fun c3 => hX ?_⟩⟩⟩
  · rw [q_lt4, z4_0] at c; omega
  · rw [q_le4, hrc] at c2; omega
  · rw [q_lt4, z4_0] at c; rw [q_lt4, z60] at c3; exact q_in _ _ (by omega) (by omega)
  · rw [q_lt4, z4_0] at c
    rw [q_le4, hrc] at c2
    obtain ⟨p, hp⟩ := Int.eq_ofNat_of_zero_le (show 0 ≤ x.toInt by omega)
    intro i2 e2 i3 e3
    rw [q_ix x p hp] at e2
    have e3' := q_inc x p hp (by omega)
    rw [← e3] at e3'
    have fin : ∀ row4, rmA row row4 n p → ∀ rc6, rc6 = rc - 1 → Q i2 row4 rc6 := by
      rintro row4 h rc6 rfl
      rw [e2]; exact hQ p hp (by omega) _ h
    refine ⟨fun i r => ∃ k : Nat, p + 1 ≤ k ∧ k ≤ n ∧ i.toInt = k ∧ (∀ j, j < p → r j = row j) ∧ (∀ j, p ≤ j → j + 1 < k → r j = row (j + 1)) ∧ (∀ j, k ≤ j + 1 → p ≤ j → j < n → k ≤ j → r j = row j), fun i _ => (100 - i.toInt).toNat,
      ⟨p + 1, by omega, by omega, e3', fun _ _ => rfl, fun j h1 h2 => absurd h2 (by omega), fun _ _ _ _ _ => rfl⟩, ?_⟩
    rintro i r ⟨k, hk1, hk2, hi, ha, hb, hc⟩
    have done : k = n → rmA row r n p := by
      rintro rfl j hj
      by_cases cj : j < p
      · rw [if_pos cj]; exact ha j cj
      · rw [if_neg cj]; exact hb j (by omega) (by omega)
    refine ⟨fun c4 => ?_, fun c4 => ⟨fun c5 => ?_, fun c5 => ?_⟩⟩
    · rw [q_le4, hrc, hi] at c4
      exact fin r (done (by omega))
    · rw [q_le4, hrc, hi] at c4
      rw [q_le4, z60, hi] at c5
      omega
    · rw [q_le4, hrc, hi] at c4
      have e6 := q_dec i k hi (by omega)
      obtain ⟨m, rfl⟩ : ∃ m, k = m + 1 := ⟨k - 1, by omega⟩
      have e7 : (i - 1).toInt = (m : Int) := by rw [e6]; omega
      clear e6
      refine ⟨q_in _ _ (by omega) (by omega), q_in _ _ (by omega) (by omega), ?_⟩
      intro r8 e8 i9 e9
      subst e9
      rw [q_ix _ _ e7, q_ix _ _ hi] at e8
      clear e7
      have e10 := q_inc i (m + 1) hi (by omega)
      refine ⟨⟨m + 1 + 1, by omega, by omega, e10, ?_, ?_, ?_⟩, ?_⟩
      · intro j hj
        rw [e8, upd_n _ _ _ _ (by omega)]; exact ha j hj
      · intro j h1 h2
        rw [e8]
        by_cases cj : j = m
        · subst cj
          rw [upd_e]; exact hc (j + 1) (by omega) (by omega) (by omega) (by omega)
        · rw [upd_n _ _ _ _ cj]; exact hb j h1 (by omega)
      · intro j h1 h2 h3 h4
        rw [e8, upd_n _ _ _ _ (by omega)]; exact hc j (by omega) h2 h3 (by omega)
      · simp only [e10, hi]; omega
  · rw [q_le4, hrc] at c2
    rw [q_lt4, z60] at c3
    omega
theorem s_mremove (row : Nat → Int32) (rc thr x : Int32) (n : Nat) (Q : Int32 → (Nat → Int32) → Int32 → Int32 → Prop) (hn : n ≤ 60) (hrc : rc.toInt = n)
    (hX : ¬ (0 ≤ x.toInt ∧ x.toInt < n) → Q 0 row rc 1) (hQ : ∀ p : Nat, x.toInt = p → p < n → ∀ row', rmA row row' n p → Q (row p) row' (rc - 1) 0) : w_X5_remove row rc thr x Q := by
  unfold w_X5_remove
  refine ⟨fun t => t = 0 ∧ (0 ≤ x.toInt ∧ x.toInt < n) ∨ t = 1 ∧ ¬ (0 ≤ x.toInt ∧ x.toInt < n), ⟨fun c => Or.inr ⟨rfl, ?_⟩, fun c => ⟨fun c2 => Or.inl ⟨rfl, ?_⟩, fun c2 => Or.inr ⟨rfl, ?_⟩⟩⟩, ?_⟩
  · rw [q_lt4, z4_0] at c; omega
  · rw [q_lt4, z4_0] at c; rw [q_lt4, hrc] at c2; omega
  · rw [q_lt4, hrc] at c2; omega
  rintro t (⟨rfl, hv⟩ | ⟨rfl, hv⟩)
  rotate_left
  · exact ⟨fun c => absurd c (by decide), fun _ => hX hv⟩
  obtain ⟨p, hp⟩ := Int.eq_ofNat_of_zero_le hv.1
  refine ⟨fun _ => ⟨q_in _ _ (by omega) (by omega), ?_⟩, fun c => absurd (by decide) c⟩
  intro i2 e2 rc6 e6
  rw [q_ix x p hp] at e2
  obtain ⟨m, rfl⟩ : ∃ m, n = m + 1 := ⟨n - 1, by omega⟩
  have e6' : rc6.toInt = (m : Int) := by rw [e6, q_dec rc (m + 1) hrc (by omega)]; omega
  refine ⟨fun i r => ∃ k : Nat, p ≤ k ∧ k ≤ m ∧ i.toInt = k ∧ (∀ j, j < p → r j = row j) ∧ (∀ j, p ≤ j → j < k → r j = row (j + 1)) ∧ (∀ j, k ≤ j → r j = row j), fun i _ => (100 - i.toInt).toNat,
      ⟨p, by omega, by omega, hp, fun _ _ => rfl, fun j h1 h2 => absurd h2 (by omega), fun _ _ => rfl⟩, ?_⟩
  rintro i r ⟨k, hk1, hk2, hi, ha, hb, hc⟩
  refine ⟨fun c4 => ?_, fun c4 => ?_⟩
  · rw [q_le4, e6', hi] at c4
    have : k = m := by omega
    subst this
    rw [e2, e6]
    refine hQ p hp (by omega) r (fun j hj => ?_)
    by_cases cj : j < p
    · rw [if_pos cj]; exact ha j cj
    · rw [if_neg cj]; exact hb j (by omega) (by omega)
  · rw [q_le4, e6', hi] at c4
    have e10 := q_inc i k hi (by omega)
    refine ⟨q_in _ _ (by omega) (by omega), q_in _ _ (by omega) (by omega), ?_⟩
    intro r8 e8 i9 e9
    subst e9
    rw [q_ix _ _ e10, q_ix _ _ hi] at e8
    refine ⟨⟨k + 1, by omega, by omega, e10, ?_, ?_, ?_⟩, ?_⟩
    · intro j hj
      rw [e8, upd_n _ _ _ _ (by omega)]; exact ha j hj
    · intro j h1 h2
      rw [e8]
      by_cases cj : j = k
      · subst cj
        rw [upd_e]; exact hc (j + 1) (by omega)
      · rw [upd_n _ _ _ _ cj]; exact hb j h1 (by omega)
    · intro j h1
      rw [e8, upd_n _ _ _ _ (by omega)]; exact hc j (by omega)
    · simp only [e10, hi]; omega
theorem RW_rm (row : Nat → Int32) (rc : Int32) (mrow row' mrow' : Nat → Int32) (n p : Nat) (hn : n ≤ 60) (hrc : rc.toInt = n) (hp : p < n) (h : ∀ j, j < n → row j = mrow j) (h1 : rmA row row' n p) (h2 : rmA mrow mrow' n p) : RW row' (rc - 1) mrow' (rc - 1) := by
  refine ⟨n - 1, by omega, by rw [q_dec rc n hrc (by omega)]; omega, rfl, fun j hj => ?_⟩
  rw [h1 j hj, h2 j hj]
  by_cases cj : j < p
  · rw [if_pos cj, if_pos cj]; exact h j (by omega)
  · rw [if_neg cj, if_neg cj]; exact h (j + 1) (by omega)
def cnt (row : Nat → Int32) (lo hi : Int32) : Nat → Int32
  | 0 => 0
  | k + 1 => if row k < lo then cnt row lo hi k else if hi < row k then cnt row lo hi k else cnt row lo hi k + 1
theorem cnt_ext (row row' : Nat → Int32) (lo hi : Int32) (n : Nat) (h : ∀ j, j < n → row j = row' j) : cnt row lo hi n = cnt row' lo hi n := by
  induction n with
  | zero => rfl
  | succ k ih => simp only [cnt]; rw [h k (by omega), ih (fun j hj => h j (by omega))]
theorem s_ccount (row : Nat → Int32) (rc lo hi : Int32) (n : Nat) (Q : Int32 → Prop) (hn : n ≤ 60) (hrc : rc.toInt = n) (hQ : Q (cnt row lo hi n)) : w_X4_count row rc lo hi Q := by
  unfold w_X4_count
  refine ⟨fun i x => ∃ k : Nat, k ≤ n ∧ i.toInt = k ∧ x = cnt row lo hi k, fun i _ => (100 - i.toInt).toNat, ⟨0, by omega, by decide, rfl⟩, ?_⟩
  rintro i x ⟨k, hk, hi', rfl⟩
  refine ⟨fun c => ?_, fun c => ⟨fun c2 => ?_, fun c2 => ?_⟩⟩
  · rw [q_le4, hrc, hi'] at c
    have : k = n := by omega
    subst this; exact hQ
  · rw [q_le4, hrc, hi'] at c; rw [q_le4, z60, hi'] at c2; omega
  · rw [q_le4, hrc, hi'] at c
    have e := q_inc i k hi' (by omega)
    have mm : (100 - (i + 1).toInt).toNat < (100 - i.toInt).toNat := by rw [e, hi']; omega
    rw [q_ix i k hi']
    refine ⟨q_in _ _ (by omega) (by omega), fun c3 => ?_, fun c3 => ⟨q_in _ _ (by omega) (by omega), fun c4 => ?_, fun c4 => ?_⟩⟩
    · rintro i4 rfl
      exact ⟨⟨k + 1, by omega, e, by simp only [cnt]; rw [if_pos c3]⟩, mm⟩
    · rintro i4 rfl
      exact ⟨⟨k + 1, by omega, e, by simp only [cnt]; rw [if_neg c3, if_pos c4]⟩, mm⟩
    · rintro x6 rfl i4 rfl
      exact ⟨⟨k + 1, by omega, e, by simp only [cnt]; rw [if_neg c3, if_neg c4]⟩, mm⟩
theorem s_mcount (row : Nat → Int32) (rc lo hi : Int32) (n : Nat) (Q : Int32 → Prop) (hn : n ≤ 60) (hrc : rc.toInt = n) (hQ : Q (cnt row lo hi n)) : w_X5_countRows row rc lo hi Q := by
  unfold w_X5_countRows
  refine ⟨fun i x => ∃ k : Nat, k ≤ n ∧ i.toInt = k ∧ x = cnt row lo hi k, fun i _ => (100 - i.toInt).toNat, ⟨0, by omega, by decide, rfl⟩, ?_⟩
  rintro i x ⟨k, hk, hi', rfl⟩
  refine ⟨fun c => ?_, fun c => ?_⟩
  · rw [q_le4, hrc, hi'] at c
    have : k = n := by omega
    subst this; exact hQ
  · rw [q_le4, hrc, hi'] at c
    have e := q_inc i k hi' (by omega)
    have mm : (100 - (i + 1).toInt).toNat < (100 - i.toInt).toNat := by rw [e, hi']; omega
    rw [q_ix i k hi']
    refine ⟨q_in _ _ (by omega) (by omega), fun c3 => ?_, fun c3 => ⟨q_in _ _ (by omega) (by omega), fun c4 => ?_, fun c4 => ?_⟩⟩
    · rintro x6 rfl i4 rfl
      exact ⟨⟨k + 1, by omega, e, by simp only [cnt]; rw [if_pos c3, Int32.add_zero]⟩, mm⟩
    · rintro x6 rfl i4 rfl
      exact ⟨⟨k + 1, by omega, e, by simp only [cnt]; rw [if_neg c3, if_pos c4, Int32.add_zero]⟩, mm⟩
    · rintro x6 rfl i4 rfl
      exact ⟨⟨k + 1, by omega, e, by simp only [cnt]; rw [if_neg c3, if_neg c4]⟩, mm⟩
theorem z4_m1000 : (-1000 : Int32).toInt = -1000 := by decide
theorem z4_14' : (14 : Int32).toInt = 14 := by decide
theorem s_allowed (a b lo hi : Int32) (Q : Int32 → Prop) (h1 : tOK a b lo hi → Q 1) (h0 : ¬ tOK a b lo hi → Q 0) : w_X3_isAllowed a b lo hi Q := by
  unfold w_X3_isAllowed
  unfold tOK at *
  rw [q_lt4, q_le4, q_lt4, q_lt4, q_lt4, q_lt4, q_lt4, z4_1, z10, z4_m1000, z4_1000, z4_14']
  refine ⟨fun c => h0 (by omega), fun c => ⟨fun c2 => h0 (by omega), fun c2 => ⟨fun c3 => h0 (by omega), fun c3 => ⟨fun c4 => h0 (by omega), fun c4 => ⟨fun c5 => h0 (by omega), fun c5 => ⟨fun c6 => h0 (by omega), fun c6 => ?_⟩⟩⟩⟩⟩⟩
  have e : (hi - lo).toInt = hi.toInt - lo.toInt := v_sub4 rfl rfl (by omega) (by omega)
  rw [e]
  exact ⟨fun c7 => h0 (by omega), fun c7 => h1 (by omega)⟩
theorem s_mtable (ma mb mlo mhi thr a b lo hi : Int32) (Q : Int64 → Int32 → Int32 → Int32 → Int32 → Int32 → Prop) (h1 : tOK a b lo hi → Q (allM a b lo hi) a b lo hi 0) (h0 : ¬ tOK a b lo hi → Q 0 ma mb mlo mhi 1) : w_X5_table ma mb mlo mhi thr a b lo hi Q := by
  unfold w_X5_table
  refine ⟨fun t => t = 1 ∧ tOK a b lo hi ∨ t = 0 ∧ ¬ tOK a b lo hi, ?_, ?_⟩
  · unfold tOK
    rw [q_lt4, q_le4, q_lt4, q_lt4, q_lt4, q_lt4, q_lt4, z4_1, z10, z4_m1000, z4_1000, z4_14']
    refine ⟨fun c => Or.inr ⟨rfl, by omega⟩, fun c => ⟨fun c2 => Or.inr ⟨rfl, by omega⟩, fun c2 => ⟨fun c3 => Or.inr ⟨rfl, by omega⟩, fun c3 => ⟨fun c4 => Or.inr ⟨rfl, by omega⟩, fun c4 => ⟨fun c5 => Or.inr ⟨rfl, by omega⟩, fun c5 => ⟨fun c6 => Or.inr ⟨rfl, by omega⟩, fun c6 => ?_⟩⟩⟩⟩⟩⟩
    have e : (hi - lo).toInt = hi.toInt - lo.toInt := v_sub4 rfl rfl (by omega) (by omega)
    rw [e]
    exact ⟨fun c7 => Or.inr ⟨rfl, by omega⟩, fun c7 => Or.inl ⟨rfl, by omega⟩⟩
  rintro t (⟨rfl, hv⟩ | ⟨rfl, hv⟩)
  · refine ⟨fun t => t = 0, ⟨fun c => absurd c (by decide), fun _ => rfl⟩, ?_⟩
    rintro t rfl
    exact ⟨fun _ => s_allOf _ _ _ _ _ (h1 hv), fun c => absurd c (by decide)⟩
  · refine ⟨fun t => t = 1, ⟨fun _ => rfl, fun c => absurd rfl c⟩, ?_⟩
    rintro t rfl
    exact ⟨fun c => absurd rfl c, fun _ => h0 hv⟩
def MN (K : Nat) (lgu : Nat → Int32) (ngu : Int32) (lgd : Nat → Int32) (ngd : Int32) (leu : Nat → Int32) (neu : Int32) (led : Nat → Int32) (ned : Int32) (lfu : Nat → Int32) (nfu : Int32) (lfd : Nat → Int32) (nfd : Int32) (fig : Nat → Int64) (len : Nat → Int32) : Prop :=
  ∃ (Ng Dg Ne De Nf Df : Nat) (V : Nat → Nat), fA lgu ngu lgd ngd Ng Dg ∧ fA leu neu led ned Ne De ∧ fA lfu nfu lfd nfd Nf Df ∧ AL fig len V ∧ V 0 = Ng ∧ V 1 = Dg ∧ V 2 = Ne ∧ V 3 = De ∧ bd K Ng Dg ∧ bd K Ne De ∧ bd K Nf Df ∧ Nf * (Dg * De) + Ne * Dg * Df = Ng * De * Df
theorem MN_mono (K K' : Nat) (a1 : Nat → Int32) (a2 : Int32) (a3 : Nat → Int32) (a4 : Int32) (b1 : Nat → Int32) (b2 : Int32) (b3 : Nat → Int32) (b4 : Int32) (c1 : Nat → Int32) (c2 : Int32) (c3 : Nat → Int32) (c4 : Int32) (fig : Nat → Int64) (len : Nat → Int32)
    (h : MN K a1 a2 a3 a4 b1 b2 b3 b4 c1 c2 c3 c4 fig len) (hk : K ≤ K') : MN K' a1 a2 a3 a4 b1 b2 b3 b4 c1 c2 c3 c4 fig len := by
  obtain ⟨Ng, Dg, Ne, De, Nf, Df, V, h1, h2, h3, h4, h5, h6, h7, h8, h9, h10, h11, h12⟩ := h
  exact ⟨Ng, Dg, Ne, De, Nf, Df, V, h1, h2, h3, h4, h5, h6, h7, h8, bd_mono _ _ _ _ h9 hk, bd_mono _ _ _ _ h10 hk, bd_mono _ _ _ _ h11 hk, h12⟩
theorem eq_raise (Ng Dg Ne De Nf Df a b N1 D1 N2 D2 : Nat) (p1 : 0 < Dg) (p2 : 0 < Df) (p3 : 0 < b) (e0 : Nf * (Dg * De) + Ne * Dg * Df = Ng * De * Df)
    (e1 : N1 * (Dg * b) = (Ng * b + a * Dg) * D1) (e2 : N2 * (Df * b) = (Nf * b + a * Df) * D2) : N2 * (D1 * De) + Ne * D1 * D2 = N1 * De * D2 := by
  refine Nat.eq_of_mul_eq_mul_right (show 0 < Dg * Df * b from Nat.mul_pos (Nat.mul_pos p1 p2) p3) ?_
  have x1 : (N2 * (D1 * De) + Ne * D1 * D2) * (Dg * Df * b) = (N2 * (Df * b)) * (D1 * De * Dg) + (Ne * Dg * Df) * (D1 * D2 * b) := by
    rw [Nat.add_mul]; congr 1 <;> ac_rfl
  have x2 : N1 * De * D2 * (Dg * Df * b) = N1 * (Dg * b) * (De * D2 * Df) := by ac_rfl
  have x3 : (Nf * b + a * Df) * D2 * (D1 * De * Dg) = (Nf * (Dg * De)) * (D1 * D2 * b) + a * Df * D2 * D1 * De * Dg := by
    rw [Nat.add_mul, Nat.add_mul]; congr 1 <;> ac_rfl
  have x4 : (Ng * b + a * Dg) * D1 * (De * D2 * Df) = (Ng * De * Df) * (D1 * D2 * b) + a * Df * D2 * D1 * De * Dg := by
    rw [Nat.add_mul, Nat.add_mul]; congr 1 <;> ac_rfl
  rw [x1, x2, e1, e2, x3, x4, ← e0, Nat.add_mul]
  omega
theorem eq_ask (Ng Dg Ne De Nf Df p q N1 D1 N2 D2 : Nat) (p1 : 0 < De) (p2 : 0 < Df) (p3 : 0 < q) (e0 : Nf * (Dg * De) + Ne * Dg * Df = Ng * De * Df)
    (e1 : N1 * (De * q) = (Ne * q + p * De) * D1) (e2 : N2 * (Df * q) + p * Df * D2 = Nf * q * D2) : N2 * (Dg * D1) + N1 * Dg * D2 = Ng * D1 * D2 := by
  refine Nat.eq_of_mul_eq_mul_right (show 0 < De * Df * q from Nat.mul_pos (Nat.mul_pos p1 p2) p3) ?_
  have x1 : (N2 * (Dg * D1) + N1 * Dg * D2) * (De * Df * q) = (N2 * (Df * q)) * (Dg * D1 * De) + N1 * (De * q) * (Dg * D2 * Df) := by
    rw [Nat.add_mul]; congr 1 <;> ac_rfl
  have x2 : Ng * D1 * D2 * (De * Df * q) = (Ng * De * Df) * (D1 * D2 * q) := by ac_rfl
  have x3 : (Ne * q + p * De) * D1 * (Dg * D2 * Df) = (Ne * Dg * Df) * (D1 * D2 * q) + p * Df * D2 * (Dg * D1 * De) := by
    rw [Nat.add_mul, Nat.add_mul]; congr 1 <;> ac_rfl
  have x4 : (N2 * (Df * q) + p * Df * D2) * (Dg * D1 * De) = (Nf * (Dg * De)) * (D1 * D2 * q) := by
    rw [e2]; ac_rfl
  rw [Nat.add_mul] at x4
  rw [x1, x2, e1, x3, ← e0, Nat.add_mul]
  omega
theorem cmp_ask (Ng Dg Ne De Nf Df p q N' D' : Nat) (p0 : 0 < Dg) (p1 : 0 < De) (p2 : 0 < Df) (p3 : 0 < q) (p4 : 0 < D') (e0 : Nf * (Dg * De) + Ne * Dg * Df = Ng * De * Df)
    (e1 : N' * (De * q) = (Ne * q + p * De) * D') : Ng * D' < N' * Dg ↔ Nf * q < Df * p := by
  have c1 : ∀ x y z : Nat, 0 < z → (x < y ↔ x * z < y * z) := fun x y z hz => (Nat.mul_lt_mul_right hz).symm
  rw [c1 (Ng * D') (N' * Dg) (De * q * Df) (Nat.mul_pos (Nat.mul_pos p1 p3) p2), c1 (Nf * q) (Df * p) (Dg * De * D') (Nat.mul_pos (Nat.mul_pos p0 p1) p4)]
  have x1 : Ng * D' * (De * q * Df) = (Ng * De * Df) * (D' * q) := by ac_rfl
  have x2 : N' * Dg * (De * q * Df) = N' * (De * q) * (Dg * Df) := by ac_rfl
  have x3 : (Ne * q + p * De) * D' * (Dg * Df) = (Ne * Dg * Df) * (D' * q) + Df * p * (Dg * De * D') := by
    rw [Nat.add_mul, Nat.add_mul]; congr 1 <;> ac_rfl
  have x4 : Nf * (Dg * De) * (D' * q) = Nf * q * (Dg * De * D') := by ac_rfl
  rw [x1, x2, e1, x3, ← e0, Nat.add_mul, x4]
  omega
def clampM (lo hi c : Int32) : Int32 := if lo ≤ c then (if c ≤ hi then c else hi) else lo
theorem clamp_in (a b lo hi c : Int32) (hT : tOK a b lo hi) : lo.toInt ≤ (clampM lo hi c).toInt ∧ (clampM lo hi c).toInt ≤ hi.toInt := by
  obtain ⟨t1, t2, t3, t4, t5, t6, t7⟩ := hT
  unfold clampM
  by_cases c1 : lo ≤ c
  · rw [if_pos c1]
    by_cases c2 : c ≤ hi
    · rw [if_pos c2]; rw [q_le4] at c1 c2; omega
    · rw [if_neg c2]; omega
  · rw [if_neg c1]; omega
def coOK (a b lo hi : Int32) (coin : Int64) : Prop := ¬ coin < 0 ∧ coin < allM a b lo hi
theorem s_cask (row : Nat → Int32) (rc wa wb wlo whi : Int32) (wtot : Int64) (lsm : Nat → Int32) (nsm : Int32) (lst : Nat → Int32) (nst : Int32) (leu : Nat → Int32) (neu : Int32) (led : Nat → Int32) (ned : Int32) (lfu : Nat → Int32) (nfu : Int32) (lfd : Nat → Int32) (nfd ans rfc rfb p0 p1 p2 p3 : Int32) (p4 : Int64) (X : Prop)
    (n K Ne De Nf Df : Nat) (Q : Int32 → (Nat → Int32) → Int32 → (Nat → Int32) → Int32 → (Nat → Int32) → Int32 → (Nat → Int32) → Int32 → (Nat → Int32) → Int32 → (Nat → Int32) → Int32 → Int32 → Int32 → Int32 → Prop)
    (hn : n ≤ 60) (hrc : rc.toInt = n) (hT : tOK wa wb wlo whi) (ht : wtot = allM wa wb wlo whi) (he : fA leu neu led ned Ne De) (hf : fA lfu nfu lfd nfd Nf Df) (be : bd K Ne De) (bf : bd K Nf Df) (hK : K ≤ 70)
    (hX : ¬ (cOK p2 p3 ∧ coOK wa wb wlo whi p4) → X)
    (hQ : ∀ a b p q : Nat, wa.toInt = a → wb.toInt = b → p2.toInt = p → p3.toInt = q → 0 < q → q ≤ 1000 → cOK p2 p3 → coOK wa wb wlo whi p4 →
      (¬ xR a b p q 60 → ∀ s1 s2 s3 s4, Q (-2147483648) s1 s2 s3 s4 leu neu led ned lfu nfu lfd nfd ans (rfc + 1) rfb) ∧
      (xR a b p q 60 → Nf * q < Df * p → ∀ s1 s2 s3 s4, Q (-2147483648) s1 s2 s3 s4 leu neu led ned lfu nfu lfd nfd ans rfc (rfb + 1)) ∧
      (xR a b p q 60 → ¬ Nf * q < Df * p → ∀ s1 s2 s3 s4 b1 b2 b3 b4 c1 c2 c3 c4 N1 D1 N2 D2 k, fA b1 b2 b3 b4 N1 D1 → fA c1 c2 c3 c4 N2 D2 → bd (K + 1) N1 D1 → bd (K + 1) N2 D2 → N1 * (De * q) = (Ne * q + p * De) * D1 → N2 * (Df * q) + p * Df * D2 = Nf * q * D2 →
        oM wa wb wlo whi (clampM wlo whi (cnt row p0 p1 n)) p4 k → Q (oK wlo k) s1 s2 s3 s4 b1 b2 b3 b4 c1 c2 c3 c4 (ans + 1) rfc rfb)) :
    w_X4_ask row rc wa wb wlo whi wtot lsm nsm lst nst leu neu led ned lfu nfu lfd nfd ans rfc rfb p0 p1 p2 p3 p4 X Q := by
  unfold w_X4_ask
  refine s_isCost p2 p3 _ (fun hv => ⟨fun c => absurd c (by decide), fun _ => ?_⟩) (fun hv => ⟨fun _ => hX (fun h => hv h.1), fun c => absurd rfl c⟩)
  rw [ht] at *
  refine s_hasCoin _ p4 _ (fun hc => ⟨fun _ => ?_, fun c => absurd c (by decide)⟩) (fun hc => ⟨fun c => absurd rfl c, fun _ => hX (fun h => hc h.2)⟩)
  have hT' := hT
  obtain ⟨t1, t2, t3, t4, t5, t6, t7⟩ := hT'
  obtain ⟨p, hp⟩ := Int.eq_ofNat_of_zero_le hv.1
  obtain ⟨q, hq⟩ := Int.eq_ofNat_of_zero_le (show 0 ≤ p3.toInt by have := hv.2.2.1; omega)
  obtain ⟨a, ha⟩ := Int.eq_ofNat_of_zero_le (show 0 ≤ wa.toInt by omega)
  obtain ⟨b, hb⟩ := Int.eq_ofNat_of_zero_le (show 0 ≤ wb.toInt by omega)
  have hv' := hv
  obtain ⟨v1, v2, v3, v4⟩ := hv'
  obtain ⟨h1, h2, h3⟩ := hQ a b p q ha hb hp hq (by omega) (by omega) hv hc
  refine s_reaches lsm nsm lst nst wa wb p2 p3 a b p q _ ha hb hp hq (by omega) (by omega) (by omega) (by omega) (by omega) (by omega) ?_
  rintro r s1 s2 s3 s4 (⟨rfl, hr⟩ | ⟨rfl, hr⟩)
  rotate_left
  · refine ⟨fun c => absurd rfl c, fun _ => ?_⟩
    rintro x rfl
    exact h1 hr _ _ _ _
  refine ⟨fun _ => ?_, fun c => absurd c (by decide)⟩
  unfold w_X0_isLessThan
  refine s_isLess lfu nfu lfd nfd p3 p2 Nf Df q p _ hf.1 hf.2 hq hp (by omega) (by omega) (fun hlt => ⟨fun c => absurd c (by decide), fun _ => ?_⟩) (fun hge => ⟨fun _ => ?_, fun c => absurd rfl c⟩)
  · rintro x rfl
    exact h2 hr (by exact_mod_cast hlt) _ _ _ _
  have hge' : ¬ Nf * q < Df * p := fun h => hge (by exact_mod_cast h)
  refine s_incr leu neu led ned p2 p3 K Ne De p q _ he be hK hp hq (by omega) (by omega) ?_
  intro b1 b2 b3 b4 N1 D1 f1 bd1 e1
  refine s_decr lfu nfu lfd nfd p2 p3 K Nf Df p q _ hf bf hK hp hq (by omega) (by omega) (by rw [Nat.mul_comm p]; omega) ?_
  intro c1 c2 c3 c4 N2 D2 f2 bd2 e2
  rintro x rfl
  refine s_ccount row rc p0 p1 n _ hn hrc ?_
  have hcl := clamp_in wa wb wlo whi (cnt row p0 p1 n) hT
  have hh : ∀ z, z = clampM wlo whi (cnt row p0 p1 n) → w_X3_outcomeOf wa wb wlo whi (allM wa wb wlo whi) z p4 (fun (r_20 : Int32) => Q r_20 s1 s2 s3 s4 b1 b2 b3 b4 c1 c2 c3 c4 (ans + 1) rfc rfb) := by
    rintro z rfl
    refine s_outcome wa wb wlo whi _ _ p4 _ hT rfl hcl.1 hcl.2 hc.2 ?_
    rintro k x hk rfl
    exact h3 hr hge' _ _ _ _ _ _ _ _ _ _ _ _ N1 D1 N2 D2 k f1 f2 bd1 bd2 e1 e2 hk
  unfold w_X3_nearestTo
  unfold clampM at hh
  refine ⟨fun c1 => ⟨fun c2 => hh _ ?_, fun c2 => hh _ ?_⟩, fun c1 => hh _ ?_⟩
  · rw [if_pos c1, if_pos c2]
  · rw [if_pos c1, if_neg c2]
  · rw [if_neg c1]
theorem s_mask (mrow : Nat → Int32) (mrs ma mb mlo mhi man mtl mtm : Int32) (fig : Nat → Int64) (len : Nat → Int32) (top bel : Nat → Int64) (thr : Int32) (trm who : Nat → Int32) (p0 p1 p2 p3 : Int32) (p4 : Int64)
    (n K Ng Dg Ne De Nf Df : Nat) (V : Nat → Nat) (Q : Int32 → Int32 → Int32 → Int32 → (Nat → Int64) → (Nat → Int32) → (Nat → Int64) → (Nat → Int64) → Int32 → (Nat → Int32) → (Nat → Int32) → Prop)
    (hn : n ≤ 60) (hrc : mrs.toInt = n) (hT : tOK ma mb mlo mhi) (hA : AL fig len V) (g0 : V 0 = Ng) (g1 : V 1 = Dg) (g2 : V 2 = Ne) (g3 : V 3 = De) (bg : bd K Ng Dg) (be : bd K Ne De) (bf : bd K Nf Df) (hK : K ≤ 69) (e0 : Nf * (Dg * De) + Ne * Dg * Df = Ng * De * Df)
    (hX : ¬ (cOK p2 p3 ∧ coOK ma mb mlo mhi p4) → Q 0 man mtl mtm fig len top bel 1 trm who)
    (hQ : ∀ a b p q : Nat, ma.toInt = a → mb.toInt = b → p2.toInt = p → p3.toInt = q → 0 < q → q ≤ 1000 → cOK p2 p3 → coOK ma mb mlo mhi p4 →
      (¬ xR a b p q 60 → ∀ s1 s2, Q (-2147483648) man (mtl + 1) mtm fig len top bel 0 s1 s2) ∧
      (xR a b p q 60 → Nf * q < Df * p → ∀ s1 s2 f l t be V', AL f l V' → (∀ s, s < 4 → V' s = V s) → Q (-2147483648) man mtl (mtm + 1) f l t be 0 s1 s2) ∧
      (xR a b p q 60 → ¬ Nf * q < Df * p → ∀ s1 s2 f l t be V' k, AL f l V' → V' 0 = Ng → V' 1 = Dg → (∀ N' D', Nat.gcd N' D' = 1 → 0 < D' → N' * (De * q) = (Ne * q + p * De) * D' → V' 2 = N' ∧ V' 3 = D') →
        oM ma mb mlo mhi (clampM mlo mhi (cnt mrow p0 p1 n)) p4 k → Q (oK mlo k) (man + 1) mtl mtm f l t be 0 s1 s2)) :
    w_X5_ask mrow mrs ma mb mlo mhi man mtl mtm fig len top bel thr trm who p0 p1 p2 p3 p4 Q := by
  unfold w_X5_ask
  have rest : cOK p2 p3 ∧ coOK ma mb mlo mhi p4 → ∀ t2 : Int32, t2 = 0 → _ := fun hv t2 h => (?_ : (t2 ≤ 0 →
      w_X5_enough ma mb trm who p2 p3 (fun (r_7 : Int32) (trm_8 : Nat → Int32) (who_9 : Nat → Int32) =>
      ((¬ r_7 = 0 →
        w_X5_set fig len top bel (2 : Int32) p2 p3 (fun (fig_10 : Nat → Int64) (len_11 : Nat → Int32) (top_12 : Nat → Int64) (bel_13 : Nat → Int64) =>
        w_X5_add0 fig_10 len_11 top_12 bel_13 (3 : Int32) (1 : Int32) (2 : Int32) (fun (fig_14 : Nat → Int64) (len_15 : Nat → Int32) (top_16 : Nat → Int64) (bel_17 : Nat → Int64) =>
        w_X5_isMore fig_14 len_15 top_16 (3 : Int32) (0 : Int32) (fun (r_18 : Int32) (fig_19 : Nat → Int64) (len_20 : Nat → Int32) (top_21 : Nat → Int64) =>
        ((r_18 = 0 →
          w_X5_copy fig_19 len_20 (2 : Int32) (6 : Int32) (fun (fig_22 : Nat → Int64) (len_23 : Nat → Int32) =>
          w_X5_copy fig_22 len_23 (3 : Int32) (7 : Int32) (fun (fig_24 : Nat → Int64) (len_25 : Nat → Int32) =>
          ∀ (man_26 : Int32), man_26 = man + 1 →
          w_X5_countRows mrow mrs p0 p1 (fun (r_27 : Int32) =>
          ((mlo ≤ r_27 →
            ((r_27 ≤ mhi →
              w_X5_drawn ma mb mlo mhi r_27 p4 (fun (r_28 : Int32) =>
              Q r_28 man_26 mtl mtm fig_24 len_25 top_21 bel_17 t2 trm_8 who_9)
             ) ∧ (¬ r_27 ≤ mhi →
              w_X5_drawn ma mb mlo mhi mhi p4 (fun (r_29 : Int32) =>
              Q r_29 man_26 mtl mtm fig_24 len_25 top_21 bel_17 t2 trm_8 who_9)
             ))
           ) ∧ (¬ mlo ≤ r_27 →
            w_X5_drawn ma mb mlo mhi mlo p4 (fun (r_31 : Int32) =>
            Q r_31 man_26 mtl mtm fig_24 len_25 top_21 bel_17 t2 trm_8 who_9)
           )))))
         ) ∧ (¬ r_18 = 0 →
          ∀ (mtm_33 : Int32), mtm_33 = mtm + 1 →
          Q ((-2147483648) : Int32) man mtl mtm_33 fig_19 len_20 top_21 bel_17 t2 trm_8 who_9
         )))))
       ) ∧ (r_7 = 0 →
        ∀ (mtl_35 : Int32), mtl_35 = mtl + 1 →
        Q ((-2147483648) : Int32) man mtl_35 mtm fig len top bel t2 trm_8 who_9
       )))
     ))
  · refine s_noCost p2 p3 _ (fun hv => ?_) (fun hv => ?_)
    · refine ⟨fun t => t = 0 ∧ (cOK p2 p3 ∧ coOK ma mb mlo mhi p4) ∨ t = 1 ∧ ¬ (cOK p2 p3 ∧ coOK ma mb mlo mhi p4), ⟨fun c => absurd rfl c, fun _ => ?_⟩, ?_⟩
      · exact s_noCoin ma mb mlo mhi p4 _ (fun h => ⟨fun _ => Or.inl ⟨rfl, hv, h⟩, fun c => absurd rfl c⟩) (fun h => ⟨fun c => absurd c (by decide), fun _ => Or.inr ⟨rfl, fun h' => h h'.2⟩⟩)
      rintro t (⟨rfl, h⟩ | ⟨rfl, h⟩)
      · exact ⟨rest h 0 rfl, fun c => absurd (by decide) c⟩
      · exact ⟨fun c => absurd c (by decide), fun _ => hX h⟩
    · refine ⟨fun t => t = 1, ⟨fun _ => rfl, fun c => absurd c (by decide)⟩, ?_⟩
      rintro t rfl
      exact ⟨fun c => absurd c (by decide), fun _ => hX (fun h => hv h.1)⟩
  subst h
  obtain ⟨hv1, hc⟩ := hv
  intro _
  have hT' := hT
  obtain ⟨t1, t2, t3, t4, t5, t6, t7⟩ := hT'
  obtain ⟨p, hp⟩ := Int.eq_ofNat_of_zero_le hv1.1
  obtain ⟨q, hq⟩ := Int.eq_ofNat_of_zero_le (show 0 ≤ p3.toInt by have := hv1.2.2.1; omega)
  obtain ⟨a, ha⟩ := Int.eq_ofNat_of_zero_le (show 0 ≤ ma.toInt by omega)
  obtain ⟨b, hb⟩ := Int.eq_ofNat_of_zero_le (show 0 ≤ mb.toInt by omega)
  have hv' := hv1
  obtain ⟨v1, v2, v3, v4⟩ := hv'
  obtain ⟨h1, h2, h3⟩ := hQ a b p q ha hb hp hq (by omega) (by omega) hv1 hc
  refine s_enough ma mb trm who p2 p3 a b p q _ ha hb hp hq (by omega) (by omega) (by omega) (by omega) (by omega) (by omega) ?_
  rintro r s1 s2 (⟨rfl, hr⟩ | ⟨rfl, hr⟩)
  rotate_left
  · refine ⟨fun c => absurd rfl c, fun _ => ?_⟩
    rintro x rfl
    exact h1 hr _ _
  refine ⟨fun _ => ?_, fun c => absurd c (by decide)⟩
  refine s_madd fig len top bel V p2 p3 1 1 K Ne De p q _ hA z4_1 (by omega) (by omega) g2 g3 be hp hq (by omega) (by omega) ?_
  intro f l t be' V1 hA1 hs1 hu
  -- the sum in lowest terms
  have hq0 : 0 < q := by omega
  have hDeq : 0 < De * q := Nat.mul_pos be.1 hq0
  have hgp : 0 < Nat.gcd (Ne * q + p * De) (De * q) := Nat.gcd_pos_of_pos_right _ hDeq
  obtain ⟨S, hS⟩ : ∃ S, S = (Ne * q + p * De) / Nat.gcd (Ne * q + p * De) (De * q) := ⟨_, rfl⟩
  obtain ⟨T, hTT⟩ : ∃ T, T = (De * q) / Nat.gcd (Ne * q + p * De) (De * q) := ⟨_, rfl⟩
  have hTpos : 0 < T := by rw [hTT]; exact Nat.div_pos (Nat.le_of_dvd hDeq (Nat.gcd_dvd_right _ _)) hgp
  have hST : Nat.gcd S T = 1 := by rw [hS, hTT]; exact cop_div _ _ hgp
  have hSe : S * (De * q) = (Ne * q + p * De) * T := by
    rw [hS, hTT]
    have d1 := Nat.mul_div_cancel' (Nat.gcd_dvd_left (Ne * q + p * De) (De * q))
    have d2 := Nat.mul_div_cancel' (Nat.gcd_dvd_right (Ne * q + p * De) (De * q))
    generalize Nat.gcd (Ne * q + p * De) (De * q) = G at *
    generalize (Ne * q + p * De) / G = x at *
    generalize De * q / G = y at *
    rw [← d1, ← d2]; ac_rfl
  have hTd : T ∣ De * q := by rw [hTT]; exact Nat.div_dvd_of_dvd (Nat.gcd_dvd_right _ _)
  have r2 := q_r4 p2
  have bS : bd (K + 1) S T := bd_chg K Ne De p q S T be (by omega) hq0 (by omega) hST hTpos hTd (Nat.le_of_eq hSe)
  have u1 := hu S T hST hTpos hSe
  have smS := bd_sm (K + 1) S T (by omega) bS
  have smG := bd_sm K Ng Dg (by omega) bg
  have k0 : V1 0 = Ng := by rw [hs1 0 (by decide), g0]
  have k1 : V1 1 = Dg := by rw [hs1 1 (by decide), g1]
  have k2 : V1 2 = Ne := by rw [hs1 2 (by decide), g2]
  have k3 : V1 3 = De := by rw [hs1 3 (by decide), g3]
  have cm := cmp_ask Ng Dg Ne De Nf Df p q S T bg.1 be.1 bf.1 hq0 hTpos e0 hSe
  refine s_isMore f l t V1 3 0 3 0 _ hA1 z4_3 (by omega) z4_0 (by omega) ⟨by show sm (V1 6); rw [u1.1]; exact smS.1, by show sm (V1 7); rw [u1.2]; exact smS.2, by show sm (V1 0); rw [k0]; exact smG.1, by show sm (V1 1); rw [k1]; exact smG.2⟩ ?_
  intro r18 f19 l20 t21 V2 hA2 hs2 hcmp
  have hcmp' : (r18 = 1 ∧ Nf * q < Df * p ∨ r18 = 0 ∧ ¬ Nf * q < Df * p) := by
    have e1 : V1 (2 * 0) = Ng := k0
    have e2 : V1 (2 * 0 + 1) = Dg := k1
    have e3 : V1 (2 * 3) = S := u1.1
    have e4 : V1 (2 * 3 + 1) = T := u1.2
    rw [e1, e2, e3, e4, cm] at hcmp
    exact hcmp
  rcases hcmp' with ⟨rfl, hlt⟩ | ⟨rfl, hge⟩
  · refine ⟨fun c => absurd c (by decide), fun _ => ?_⟩
    rintro x rfl
    exact h2 hr hlt _ _ _ _ _ _ V2 hA2 (fun s hs => by rw [hs2 s (by omega), hs1 s hs])
  refine ⟨fun _ => ?_, fun c => absurd rfl c⟩
  refine s_copy f19 l20 V2 2 6 2 6 _ hA2 z2 (by decide) z4_6 (by decide) (by decide) ?_
  intro f22 l23 hA22
  refine s_copy f22 l23 _ 3 7 3 7 _ hA22 z4_3 (by decide) z4_7 (by decide) (by decide) ?_
  intro f24 l25 hA24
  rintro x rfl
  refine s_mcount mrow mrs p0 p1 n _ hn hrc ?_
  have hcl := clamp_in ma mb mlo mhi (cnt mrow p0 p1 n) hT
  have hh : ∀ z, z = clampM mlo mhi (cnt mrow p0 p1 n) → w_X5_drawn ma mb mlo mhi z p4 (fun (r_28 : Int32) => Q r_28 (man + 1) mtl mtm f24 l25 t21 be' 0 s1 s2) := by
    rintro z rfl
    refine s_drawn ma mb mlo mhi _ p4 _ hT hcl.1 hcl.2 hc.2 ?_
    rintro k x hk rfl
    refine h3 hr hge _ _ _ _ _ _ _ k hA24 ?_ ?_ (fun N' D' hg hD' he => ?_) hk
    · rw [sV_n _ _ _ _ (by decide), sV_n _ _ _ _ (by decide), hs2 0 (by decide), k0]
    · rw [sV_n _ _ _ _ (by decide), sV_n _ _ _ _ (by decide), hs2 1 (by decide), k1]
    · have := hu N' D' hg hD' he
      rw [sV_n _ 3 _ 2 (by decide), sV_e, sV_e, sV_n _ 2 _ 7 (by decide), hs2 6 (by decide), hs2 7 (by decide)]; exact this
  unfold clampM at hh
  refine ⟨fun c1 => ⟨fun c2 => hh _ ?_, fun c2 => hh _ ?_⟩, fun c1 => hh _ ?_⟩
  · rw [if_pos c1, if_pos c2]
  · rw [if_pos c1, if_neg c2]
  · rw [if_neg c1]
def lR (v : Nat) (p2 r : Int32) : Prop := ∃ k : Nat, k ≤ 64 ∧ (v : Int) < 2147483648 ^ k ∧ dT 2147483648 k v ∧
  (p2 = -1 ∧ r.toInt = k ∨ ¬ p2 = -1 ∧ p2 < 0 ∧ r = -1 ∨ ¬ p2 < 0 ∧ (k : Int) ≤ p2.toInt ∧ r = -1 ∨ ¬ p2 < 0 ∧ p2.toInt < k ∧ r.toInt = dd 2147483648 v p2.toInt.toNat)
theorem lR_u (v : Nat) (p2 r r' : Int32) (h : lR v p2 r) (h' : lR v p2 r') : r = r' := by
  obtain ⟨k, hk, h1, h2, h3⟩ := h
  obtain ⟨k', hk', h1', h2', h3'⟩ := h'
  have e := dT_uniq 2147483648 (by decide) k k' v h2 h1 h2' h1'
  subst e
  clear h1 h1' h2 h2'
  have n1 : (-1 : Int32) < 0 := by decide
  rcases h3 with ⟨a, b⟩ | ⟨a, a2, b⟩ | ⟨a, a2, b⟩ | ⟨a, a2, b⟩ <;> rcases h3' with ⟨c, d⟩ | ⟨c, c2, d⟩ | ⟨c, c2, d⟩ | ⟨c, c2, d⟩
  · rw [q_eq4, b, d]
  · exact absurd a c
  · subst a; exact absurd n1 c
  · subst a; exact absurd n1 c
  · exact absurd c a
  · rw [b, d]
  · exact absurd a2 c
  · exact absurd a2 c
  · subst c; exact absurd n1 a
  · exact absurd c2 a
  · rw [b, d]
  · omega
  · subst c; exact absurd n1 a
  · exact absurd c2 a
  · omega
  · rw [q_eq4, b, d]
theorem s_limbI (l : Nat → Int32) (n p2 : Int32) (v : Nat) (Q : Int32 → Prop) (h : rN l n v) (hQ : ∀ r, lR v p2 r → Q r) :
    ((¬ p2 = (-1) → ((p2 < 0 → Q ((-1) : Int32)) ∧ (¬ p2 < 0 → ((n ≤ p2 → Q ((-1) : Int32)) ∧ (¬ n ≤ p2 → w_X1_limbAt l n p2 (fun (r_1 : Int32) => Q r_1)))))) ∧ (p2 = (-1) → Q n)) := by
  obtain ⟨k, hk, hn, hr, ht⟩ := h
  refine ⟨fun c => ⟨fun c2 => ?_, fun c2 => ⟨fun c3 => ?_, fun c3 => ?_⟩⟩, fun c => ?_⟩
  · exact hQ _ ⟨k, hk, hr.2.1, ht, Or.inr (Or.inl ⟨c, c2, rfl⟩)⟩
  · rw [q_le4, hn] at c3
    exact hQ _ ⟨k, hk, hr.2.1, ht, Or.inr (Or.inr (Or.inl ⟨c2, c3, rfl⟩))⟩
  · rw [q_le4, hn] at c3
    have c2' := c2
    rw [q_lt4, z4_0] at c2'
    obtain ⟨j, hj⟩ := Int.eq_ofNat_of_zero_le (show 0 ≤ p2.toInt by omega)
    refine s_limbAt l n p2 k j v _ hk hn hj hr.1 hr.2.1 (fun hjk => hr.2.2 j hjk) ?_
    intro r er
    exact hQ _ ⟨k, hk, hr.2.1, ht, Or.inr (Or.inr (Or.inr ⟨c2, by omega, by rw [er, hj]; rfl⟩))⟩
  · exact hQ _ ⟨k, hk, hr.2.1, ht, Or.inl ⟨c, hn⟩⟩
def sel (p0 p1 : Int32) (Ng Dg Ne De Nf Df : Nat) : Nat := if p0 = 0 then (if p1 = 0 then Ng else Dg) else if p0 = 1 then (if p1 = 0 then Ne else De) else (if p1 = 0 then Nf else Df)
def lOK (p0 p1 : Int32) : Prop := 0 ≤ p0.toInt ∧ p0.toInt ≤ 2 ∧ 0 ≤ p1.toInt ∧ p1.toInt ≤ 1
theorem s_climb (lgu : Nat → Int32) (ngu : Int32) (lgd : Nat → Int32) (ngd : Int32) (leu : Nat → Int32) (neu : Int32) (led : Nat → Int32) (ned : Int32) (lfu : Nat → Int32) (nfu : Int32) (lfd : Nat → Int32) (nfd p0 p1 p2 : Int32) (X : Prop) (Q : Int32 → Prop) (Ng Dg Ne De Nf Df : Nat)
    (hg : fA lgu ngu lgd ngd Ng Dg) (he : fA leu neu led ned Ne De) (hf : fA lfu nfu lfd nfd Nf Df) (hX : ¬ lOK p0 p1 → X) (hQ : lOK p0 p1 → ∀ r, lR (sel p0 p1 Ng Dg Ne De Nf Df) p2 r → Q r) : w_X4_limb lgu ngu lgd ngd leu neu led ned lfu nfu lfd nfd p0 p1 p2 X Q := by
  unfold w_X4_limb
  unfold lOK at *
  rw [q_lt4 p0, q_lt4 2 p0, q_lt4 p1, q_le4 p1, z4_0, z2, z4_1]
  refine ⟨fun c => hX (by omega), fun c => ⟨fun c2 => hX (by omega), fun c2 => ⟨fun c3 => hX (by omega), fun c3 => ⟨fun c4 => ?_, fun c4 => hX (by omega)⟩⟩⟩⟩
  have hQ := hQ (by omega)
  unfold sel at hQ
  refine ⟨fun d0 => ⟨fun d1 => ⟨fun d2 => ?_, fun d2 => ?_⟩, fun d1 => ⟨fun d2 => ?_, fun d2 => ?_⟩⟩, fun d0 => ⟨fun d2 => ?_, fun d2 => ?_⟩⟩
  · rw [if_neg d0, if_neg d1, if_neg d2] at hQ; exact s_limbI _ _ _ _ _ hf.2 hQ
  · rw [if_neg d0, if_neg d1, if_pos d2] at hQ; exact s_limbI _ _ _ _ _ hf.1 hQ
  · rw [if_neg d0, if_pos d1, if_neg d2] at hQ; exact s_limbI _ _ _ _ _ he.2 hQ
  · rw [if_neg d0, if_pos d1, if_pos d2] at hQ; exact s_limbI _ _ _ _ _ he.1 hQ
  · rw [if_pos d0, if_neg d2] at hQ; exact s_limbI _ _ _ _ _ hg.2 hQ
  · rw [if_pos d0, if_pos d2] at hQ; exact s_limbI _ _ _ _ _ hg.1 hQ
theorem s_mlimb (fig : Nat → Int64) (len : Nat → Int32) (top bel : Nat → Int64) (thr p0 p1 p2 : Int32) (Q : Int32 → (Nat → Int64) → (Nat → Int32) → (Nat → Int64) → (Nat → Int64) → Int32 → Prop) (K Ng Dg Ne De Nf Df : Nat) (V : Nat → Nat)
    (hA : AL fig len V) (g0 : V 0 = Ng) (g1 : V 1 = Dg) (g2 : V 2 = Ne) (g3 : V 3 = De) (bg : bd K Ng Dg) (be : bd K Ne De) (bf : bd K Nf Df) (hK : K ≤ 70) (e0 : Nf * (Dg * De) + Ne * Dg * Df = Ng * De * Df)
    (hX : ¬ lOK p0 p1 → Q 0 fig len top bel 1) (hQ : lOK p0 p1 → ∀ r f l t be V', AL f l V' → (∀ s, s < 4 → V' s = V s) → lR (sel p0 p1 Ng Dg Ne De Nf Df) p2 r → Q r f l t be 0) : w_X5_limb fig len top bel thr p0 p1 p2 Q := by
  unfold w_X5_limb
  refine ⟨fun t => t = 0 ∧ lOK p0 p1 ∨ t = 1 ∧ ¬ lOK p0 p1, ?_, ?_⟩
  · unfold lOK
    rw [q_lt4 p0, q_lt4 2 p0, q_lt4 p1, q_le4 p1, z4_0, z2, z4_1]
    exact ⟨fun c => Or.inr ⟨rfl, by omega⟩, fun c => ⟨fun c2 => Or.inr ⟨rfl, by omega⟩, fun c2 => ⟨fun c3 => Or.inr ⟨rfl, by omega⟩, fun c3 => ⟨fun c4 => Or.inl ⟨rfl, by omega⟩, fun c4 => Or.inr ⟨rfl, by omega⟩⟩⟩⟩⟩
  rintro t (⟨rfl, hv⟩ | ⟨rfl, hv⟩)
  rotate_left
  · exact ⟨fun c => absurd c (by decide), fun _ => hX hv⟩
  refine ⟨fun _ => ?_, fun c => absurd (by decide) c⟩
  have hQ := hQ hv
  obtain ⟨v1, v2, v3, v4⟩ := hv
  refine ⟨fun f l _ _ => ∃ V', AL f l V' ∧ (∀ s, s < 4 → V' s = V s) ∧ (p0 = 2 → V' 6 = Nf ∧ V' 7 = Df), ⟨fun c => ⟨V, hA, fun _ _ => rfl, fun h => absurd h c⟩, fun c => ?_⟩, ?_⟩
  · have sg := bd_sm K Ng Dg hK bg
    have se := bd_sm K Ne De hK be
    have hle : Ne * Dg ≤ Ng * De := by
      refine Nat.le_of_mul_le_mul_right (c := Df) ?_ bf.1
      omega
    have k0 : V (2 * 0) = Ng := g0
    have k1 : V (2 * 0 + 1) = Dg := g1
    have k2 : V (2 * 1) = Ne := g2
    have k3 : V (2 * 1 + 1) = De := g3
    refine s_subtract fig len top bel V 3 0 1 3 0 1 _ hA z4_3 (by omega) z4_0 (by omega) z4_1 (by omega) (by rw [k0, k1, k2, k3]; exact ⟨sg.1, sg.2, se.1, se.2⟩) (by rw [k1, k3]; exact ⟨bg.1, be.1⟩) (by rw [k0, k1, k2, k3]; exact hle) ?_
    intro f l t b V' N D hA' hN hD hl
    rw [k0, k1, k2, k3] at hN
    rw [k1, k3] at hD
    refine ⟨V', hA', fun s hs => hl.2.2 s (by omega) (by omega) (by omega), fun _ => ?_⟩
    have hDp : 0 < D := by rw [hD]; exact Nat.mul_pos bg.1 be.1
    have key : Nf * D = N * Df := by rw [hD, hN, Nat.sub_mul]; omega
    have := ratU Nf Df N D bf.2.2.2 bf.1 hDp key
    exact ⟨by rw [this.1]; exact hl.1, by rw [this.2]; exact hl.2.1⟩
  rintro f l t b ⟨V', hA', hs, h67⟩
  refine ⟨fun t => ∃ c : Nat, t.toInt = c ∧ c ≤ 3 ∧ (p0 = 0 → c = 0) ∧ (p0 = 1 → c = 1) ∧ (¬ p0 = 0 → ¬ p0 = 1 → c = 3 ∧ p0 = 2), ⟨fun c => ?_, fun c => ?_⟩, ?_⟩
  · have hne : p0.toInt ≠ 2 := fun h => c (by rw [q_eq4, h]; decide)
    obtain ⟨m, hm⟩ := Int.eq_ofNat_of_zero_le v1
    refine ⟨m, hm, by omega, fun h => ?_, fun h => ?_, fun h h' => ?_⟩
    · rw [h, z4_0] at hm; omega
    · rw [h, z4_1] at hm; omega
    · rw [q_eq4, z4_0] at h; rw [q_eq4, z4_1] at h'; omega
  · exact ⟨3, by decide, by omega, fun h => absurd (c ▸ h) (by decide), fun h => absurd (c ▸ h) (by decide), fun _ _ => ⟨rfl, c⟩⟩
  rintro t17 ⟨c, hc, hc3, d0, d1, d2⟩ v20 e20
  obtain ⟨m, hm⟩ := Int.eq_ofNat_of_zero_le v3
  have ev20 : v20.toInt = ((2 * c + m : Nat) : Int) := by rw [e20, v_add4 (q_2c t17 c hc hc3) hm (by omega) (by omega)]; omega
  have hsel : V' (2 * c + m) = sel p0 p1 Ng Dg Ne De Nf Df := by
    have em : (p1 = 0 ∧ m = 0) ∨ (¬ p1 = 0 ∧ m = 1) := by
      rw [q_eq4, z4_0]; omega
    unfold sel
    by_cases c0 : p0 = 0
    · rw [d0 c0, if_pos c0]
      rcases em with ⟨a, rfl⟩ | ⟨a, rfl⟩
      · rw [if_pos a, hs _ (by omega)]; exact g0
      · rw [if_neg a, hs _ (by omega)]; exact g1
    · rw [if_neg c0]
      by_cases c1 : p0 = 1
      · rw [d1 c1, if_pos c1]
        rcases em with ⟨a, rfl⟩ | ⟨a, rfl⟩
        · rw [if_pos a, hs _ (by omega)]; exact g2
        · rw [if_neg a, hs _ (by omega)]; exact g3
      · rw [if_neg c1]
        obtain ⟨c3, p02⟩ := d2 c0 c1
        rw [c3]
        rcases em with ⟨a, rfl⟩ | ⟨a, rfl⟩
        · rw [if_pos a]; exact (h67 p02).1
        · rw [if_neg a]; exact (h67 p02).2
  have hsR := hA' (2 * c + m) (by omega)
  rw [hsel] at hsR
  obtain ⟨k, hk, hl, hr, ht⟩ := hsR
  have ix := q_ix v20 _ ev20
  have pin : vp_in v20 18 := q_in _ _ (by omega) (by omega)
  have hQ' := fun r hr' => hQ r f l t b V' hA' hs hr'
  rw [ix]
  refine ⟨fun c1 => ⟨fun c2 => ?_, fun c2 => ⟨pin, fun c3 => ?_, fun c3 => ?_⟩⟩, fun c1 => ⟨pin, ?_⟩⟩
  · exact hQ' _ ⟨k, hk, hr.2.1, ht, Or.inr (Or.inl ⟨c1, c2, rfl⟩)⟩
  · rw [q_lt4, hl] at c3
    have c2' := c2
    rw [q_lt4, z4_0] at c2'
    obtain ⟨j, hj⟩ := Int.eq_ofNat_of_zero_le (show 0 ≤ p2.toInt by omega)
    intro v21 e21
    have ev21 := q_idx v20 p2 (2 * c + m) j ev20 hj (by omega) (by omega)
    rw [← e21] at ev21
    refine ⟨q_in _ _ (by omega) (by omega), ?_⟩
    rw [q_ix _ _ ev21]
    have ed : (f (256 * (2 * c + m) + j)).toInt = dd 2147483648 (sel p0 p1 Ng Dg Ne De Nf Df : Nat) j := hr.2.2 j (by omega)
    have b0 := dd_nn 2147483648 B31 (sel p0 p1 Ng Dg Ne De Nf Df : Nat) j
    have b1 := dd_lt 2147483648 B31 (sel p0 p1 Ng Dg Ne De Nf Df : Nat) j
    have e3 := v_84 ed (by clear ed hr ht; omega) (by clear ed hr ht; omega)
    exact hQ' _ ⟨k, hk, hr.2.1, ht, Or.inr (Or.inr (Or.inr ⟨c2, by rw [hj] at c3 ⊢; exact c3, by rw [e3, hj]; rfl⟩))⟩
  · rw [q_lt4, hl] at c3
    exact hQ' _ ⟨k, hk, hr.2.1, ht, Or.inr (Or.inr (Or.inl ⟨c2, Int.not_lt.mp c3, rfl⟩))⟩
  · exact hQ' _ ⟨k, hk, hr.2.1, ht, Or.inl ⟨c1, hl⟩⟩
theorem AL_0 : AL (fun _ => 0) (fun _ => 0) (fun _ => 0) := by
  intro s hs
  show sR _ _ s 0
  exact ⟨0, by omega, rfl, ⟨by decide, by decide, fun i hi => absurd hi (by omega)⟩, Or.inl rfl⟩
theorem s_X5init (Q : (Nat → Int32) → Int32 → Int32 → Int32 → Int32 → Int32 → Int32 → Int32 → Int32 → (Nat → Int64) → (Nat → Int32) → (Nat → Int64) → (Nat → Int64) → Int32 → (Nat → Int32) → (Nat → Int32) → Prop)
    (hQ : ∀ f l V, AL f l V → V 0 = 0 → V 1 = 1 → V 2 = 0 → V 3 = 1 → Q (fun _ => 0) 0 1 2 0 10 0 0 0 f l (fun _ => 0) (fun _ => 0) 0 (fun _ => 0) (fun _ => 0)) : w_X5_init Q := by
  unfold w_X5_init
  refine ⟨fun i f l => ∃ (k : Nat) (V : Nat → Nat), k ≤ 5 ∧ i.toInt = k ∧ AL f l V ∧ V 0 = 0 ∧ V 2 = 0 ∧ (1 ≤ k → V 1 = 1) ∧ (2 ≤ k → V 3 = 1), fun i _ _ => (100 - i.toInt).toNat, ⟨0, _, by omega, by decide, AL_0, rfl, rfl, fun h => absurd h (by omega), fun h => absurd h (by omega)⟩, ?_⟩
  rintro i f l ⟨k, V, hk, hi, hA, h0, h2, h1, h3⟩
  have z5 : (5 : Int32).toInt = 5 := by decide
  refine ⟨fun c => ?_, fun c => ?_⟩
  · rw [q_le4, hi, z5] at c
    exact hQ f l V hA h0 (h1 (by omega)) h2 (h3 (by omega))
  · rw [q_le4, hi, z5] at c
    intro v5 e5
    have e2 : (2 * i).toInt = ((2 * k : Nat) : Int) := by rw [v_mul4 z2 hi (by omega) (by omega)]; omega
    have ev5 : v5.toInt = ((2 * k + 1 : Nat) : Int) := by rw [e5]; exact q_inc _ _ e2 (by omega)
    refine s_put f l V v5 1 (2 * k + 1) 1 _ hA ev5 (by omega) (by decide) (by decide) ?_
    intro f' l' hA'
    rintro i8 rfl
    have e := q_inc i k hi (by omega)
    refine ⟨⟨k + 1, _, by omega, e, hA', by rw [sV_n _ _ _ _ (by omega), h0], by rw [sV_n _ _ _ _ (by omega), h2], fun _ => ?_, fun _ => ?_⟩, ?_⟩
    · by_cases ck : k = 0
      · subst ck; exact sV_e _ _ _
      · rw [sV_n _ _ _ _ (by omega)]; exact h1 (by omega)
    · by_cases ck : k = 1
      · subst ck; exact sV_e _ _ _
      · rw [sV_n _ _ _ _ (by omega)]; exact h3 (by omega)
    · simp only [e, hi]; omega
theorem rN_0 : rN (fun _ => 0) 0 ((0 : Nat) : Int) := ⟨0, by omega, by decide, ⟨by decide, by decide, fun i hi => absurd hi (by omega)⟩, Or.inl rfl⟩
theorem s_X0init (Q : (Nat → Int32) → Int32 → (Nat → Int32) → Int32 → Prop) (hQ : ∀ a b c d, fA a b c d 0 1 → Q a b c d) : w_X0_init Q := by
  unfold w_X0_init w_X1_init
  refine s_become _ _ 1 1 _ z4_1 (by decide) ?_
  intro l n h
  exact hQ _ _ _ _ ⟨rN_0, h⟩
theorem s_X4init (Q : (Nat → Int32) → Int32 → Int32 → Int32 → Int32 → Int32 → Int64 → (Nat → Int32) → Int32 → (Nat → Int32) → Int32 → (Nat → Int32) → Int32 → (Nat → Int32) → Int32 → (Nat → Int32) → Int32 → (Nat → Int32) → Int32 → (Nat → Int32) → Int32 → (Nat → Int32) → Int32 → Int32 → Int32 → Int32 → Prop)
    (hQ : ∀ s1 s2 s3 s4 a1 a2 a3 a4 b1 b2 b3 b4 c1 c2 c3 c4, fA a1 a2 a3 a4 0 1 → fA b1 b2 b3 b4 0 1 → fA c1 c2 c3 c4 0 1 → Q (fun _ => 0) 0 1 2 0 10 (allM 1 2 0 10) s1 s2 s3 s4 a1 a2 a3 a4 b1 b2 b3 b4 c1 c2 c3 c4 0 0 0) : w_X4_init Q := by
  unfold w_X4_init w_X3_init w_X2_init
  refine s_tbecome _ _ _ _ _ _ _ _ _ _ ?_
  unfold w_X1_init
  refine s_X0init _ ?_
  intro a1 a2 a3 a4 h1
  refine s_X0init _ ?_
  intro b1 b2 b3 b4 h2
  refine s_X0init _ ?_
  intro c1 c2 c3 c4 h3
  exact hQ _ _ _ _ _ _ _ _ _ _ _ _ _ _ _ _ h1 h2 h3
theorem s_cdraw (a b lo hi : Int32) (r : Int32) (coin : Int64) (X : Prop) (Q : Int32 → Prop) (hT : tOK a b lo hi) (hX : ¬ ((¬ r < lo ∧ ¬ hi < r) ∧ coOK a b lo hi coin) → X) (hQ : (¬ r < lo ∧ ¬ hi < r) → coOK a b lo hi coin → ∀ k, oM a b lo hi r coin k → Q (oK lo k)) : w_X4_draw a b lo hi (allM a b lo hi) r coin X Q := by
  unfold w_X4_draw
  refine s_holds lo hi r _ (fun c => ⟨fun _ => hX (fun h => c.elim h.1.1 h.1.2), fun c2 => absurd rfl c2⟩) (fun c1 c2 => ⟨fun c => absurd c (by decide), fun _ => ?_⟩)
  refine s_hasCoin _ coin _ (fun hc => ⟨fun _ => ?_, fun c => absurd c (by decide)⟩) (fun hc => ⟨fun c => absurd rfl c, fun _ => hX (fun h => hc h.2)⟩)
  refine s_outcome a b lo hi _ r coin _ hT rfl (by rw [q_lt4] at c1; omega) (by rw [q_lt4] at c2; omega) hc.2 ?_
  rintro k x hk rfl
  exact hQ ⟨c1, c2⟩ hc k hk
theorem s_mdraw (a b lo hi thr : Int32) (r : Int32) (coin : Int64) (Q : Int32 → Int32 → Prop) (hT : tOK a b lo hi) (hX : ¬ ((¬ r < lo ∧ ¬ hi < r) ∧ coOK a b lo hi coin) → Q 0 1) (hQ : (¬ r < lo ∧ ¬ hi < r) → coOK a b lo hi coin → ∀ k, oM a b lo hi r coin k → Q (oK lo k) 0) : w_X5_draw a b lo hi thr r coin Q := by
  unfold w_X5_draw
  have bad : ¬ ((¬ r < lo ∧ ¬ hi < r) ∧ coOK a b lo hi coin) → ∀ t : Int32, t = 1 → ((t ≤ 0 → w_X5_drawn a b lo hi r coin (fun (r_7 : Int32) => Q r_7 t)) ∧ (¬ t ≤ 0 → Q (0 : Int32) t)) := by
    rintro h t rfl
    exact ⟨fun c => absurd c (by decide), fun _ => hX h⟩
  refine s_isOut lo hi r _ (fun c => ?_) (fun c1 c2 => ?_)
  · exact ⟨fun t => t = 1, ⟨fun _ => rfl, fun c => absurd c (by decide)⟩, fun t ht => bad (fun h => c.elim h.1.1 h.1.2) t ht⟩
  · refine ⟨fun t => t = 0 ∧ coOK a b lo hi coin ∨ t = 1 ∧ ¬ coOK a b lo hi coin, ⟨fun c => absurd rfl c, fun _ => ?_⟩, ?_⟩
    · exact s_noCoin a b lo hi coin _ (fun h => ⟨fun _ => Or.inl ⟨rfl, h⟩, fun c => absurd rfl c⟩) (fun h => ⟨fun c => absurd c (by decide), fun _ => Or.inr ⟨rfl, h⟩⟩)
    rintro t (⟨ht, h⟩ | ⟨ht, h⟩)
    · subst ht
      refine ⟨fun _ => ?_, fun c => absurd (by decide) c⟩
      refine s_drawn a b lo hi r coin _ hT (by rw [q_lt4] at c1; omega) (by rw [q_lt4] at c2; omega) h.2 ?_
      rintro k x hk rfl
      exact hQ ⟨c1, c2⟩ h k hk
    · exact bad (fun h' => h h'.2) t ht
theorem s_misEn (ma mb thr : Int32) (trm who : Nat → Int32) (p0 p1 : Int32) (a b : Nat) (Q : Int32 → Int32 → (Nat → Int32) → (Nat → Int32) → Prop) (hma : ma.toInt = a) (hmb : mb.toInt = b) (ha : 1 ≤ a) (hab : a < b) (hb : b ≤ 10)
    (hX : ¬ cOK p0 p1 → Q 0 1 trm who) (hQ : cOK p0 p1 → ∀ p q : Nat, p0.toInt = p → p1.toInt = q → ∀ r t w, (r = 1 ∧ xR a b p q 60 ∨ r = 0 ∧ ¬ xR a b p q 60) → Q r 0 t w) : w_X5_isEnough ma mb thr trm who p0 p1 Q := by
  unfold w_X5_isEnough
  refine s_noCost p0 p1 _ (fun hv => ?_) (fun hv => ?_)
  · refine ⟨fun t => t = 0, ⟨fun _ => rfl, fun c => absurd rfl c⟩, ?_⟩
    rintro t rfl
    refine ⟨fun c => absurd rfl c, fun _ => ?_⟩
    obtain ⟨p, hp⟩ := Int.eq_ofNat_of_zero_le hv.1
    obtain ⟨q, hq⟩ := Int.eq_ofNat_of_zero_le (show 0 ≤ p1.toInt by have := hv.2.2.1; omega)
    have hv' := hv
    obtain ⟨v1, v2, v3, v4⟩ := hv'
    refine s_enough ma mb trm who p0 p1 a b p q _ hma hmb hp hq ha hab hb (by omega) (by omega) (by omega) ?_
    rintro r t w (⟨rfl, hr⟩ | ⟨rfl, hr⟩)
    · exact ⟨fun c => absurd c (by decide), fun _ => hQ hv p q hp hq 1 t w (Or.inl ⟨rfl, hr⟩)⟩
    · exact ⟨fun _ => hQ hv p q hp hq 0 t w (Or.inr ⟨rfl, hr⟩), fun c => absurd rfl c⟩
  · refine ⟨fun t => t = 1, ⟨fun c => absurd c (by decide), fun _ => rfl⟩, ?_⟩
    rintro t rfl
    exact ⟨fun _ => hX hv, fun c => absurd c (by decide)⟩
theorem s_cisEn (wa wb : Int32) (lsm : Nat → Int32) (nsm : Int32) (lst : Nat → Int32) (nst p0 p1 : Int32) (a b : Nat) (X : Prop) (Q : Int32 → (Nat → Int32) → Int32 → (Nat → Int32) → Int32 → Prop) (hma : wa.toInt = a) (hmb : wb.toInt = b) (ha : 1 ≤ a) (hab : a < b) (hb : b ≤ 10)
    (hX : ¬ cOK p0 p1 → X) (hQ : cOK p0 p1 → ∀ p q : Nat, p0.toInt = p → p1.toInt = q → ∀ r s1 s2 s3 s4, (r = 1 ∧ xR a b p q 60 ∨ r = 0 ∧ ¬ xR a b p q 60) → Q r s1 s2 s3 s4) : w_X4_isEnough wa wb lsm nsm lst nst p0 p1 X Q := by
  unfold w_X4_isEnough
  refine s_isCost p0 p1 _ (fun hv => ⟨fun _ => ?_, fun c => absurd c (by decide)⟩) (fun hv => ⟨fun c => absurd rfl c, fun _ => hX hv⟩)
  obtain ⟨p, hp⟩ := Int.eq_ofNat_of_zero_le hv.1
  obtain ⟨q, hq⟩ := Int.eq_ofNat_of_zero_le (show 0 ≤ p1.toInt by have := hv.2.2.1; omega)
  have hv' := hv
  obtain ⟨v1, v2, v3, v4⟩ := hv'
  refine s_reaches lsm nsm lst nst wa wb p0 p1 a b p q _ hma hmb hp hq ha hab hb (by omega) (by omega) (by omega) ?_
  intro r s1 s2 s3 s4 hr
  exact hQ hv p q hp hq r s1 s2 s3 s4 hr
theorem s_cisNear (a b lo hi : Int32) (r p : Int32) (X : Prop) (Q : Int32 → Prop) (hT : tOK a b lo hi) (hX : ((r < lo ∨ hi < r) ∨ (p < lo ∨ hi < p)) → X)
    (h1 : ¬ ((r < lo ∨ hi < r) ∨ (p < lo ∨ hi < p)) → nearM a b lo hi r p → Q 1) (h0 : ¬ ((r < lo ∨ hi < r) ∨ (p < lo ∨ hi < p)) → ¬ nearM a b lo hi r p → Q 0) : w_X4_isNear a b lo hi (allM a b lo hi) r p X Q := by
  unfold w_X4_isNear
  refine s_holds lo hi r _ (fun c => ⟨fun _ => hX (Or.inl c), fun c2 => absurd rfl c2⟩) (fun c1 c2 => ⟨fun c => absurd c (by decide), fun _ => ?_⟩)
  refine s_holds lo hi p _ (fun c => ⟨fun c2 => absurd rfl c2, fun _ => hX (Or.inr c)⟩) (fun c3 c4 => ⟨fun _ => ?_, fun c => absurd c (by decide)⟩)
  have hn : ¬ ((r < lo ∨ hi < r) ∨ (p < lo ∨ hi < p)) := by
    rintro ((h | h) | (h | h))
    · exact c1 h
    · exact c2 h
    · exact c3 h
    · exact c4 h
  exact s_near3 a b lo hi _ r p _ hT rfl (h1 hn) (h0 hn)
theorem s_ctold (rc wa wb wlo whi ans rfc rfb p0 : Int32) (X : Prop) (Q : Int32 → Prop) (h : ¬ (0 ≤ p0.toInt ∧ p0.toInt ≤ 7) → X)
    (h0 : p0 = 0 → Q ans) (h1 : p0 = 1 → Q rfc) (h2 : p0 = 2 → Q rfb) (h3 : p0 = 3 → Q rc) (h4 : p0 = 4 → Q wlo) (h5 : p0 = 5 → Q whi) (h6 : p0 = 6 → Q wa) (h7 : p0 = 7 → Q wb) : w_X4_told rc wa wb wlo whi ans rfc rfb p0 X Q := by
  unfold w_X4_told
  refine ⟨h0, fun c0 => ⟨h1, fun c1 => ⟨h2, fun c2 => ⟨h3, fun c3 => ⟨h4, fun c4 => ⟨h5, fun c5 => ⟨h6, fun c6 => ⟨h7, fun c7 => h ?_⟩⟩⟩⟩⟩⟩⟩⟩
  rw [q_eq4] at c0 c1 c2 c3 c4 c5 c6 c7
  have a0 : (0 : Int32).toInt = 0 := by decide
  have a1 : (1 : Int32).toInt = 1 := by decide
  have a2 : (2 : Int32).toInt = 2 := by decide
  have a3 : (3 : Int32).toInt = 3 := by decide
  have a4 : (4 : Int32).toInt = 4 := by decide
  have a5 : (5 : Int32).toInt = 5 := by decide
  have a6 : (6 : Int32).toInt = 6 := by decide
  have a7 : (7 : Int32).toInt = 7 := by decide
  omega
theorem s_mtold (mrs ma mb mlo mhi man mtl mtm thr p0 : Int32) (Q : Int32 → Int32 → Prop) (h : ¬ (0 ≤ p0.toInt ∧ p0.toInt ≤ 7) → Q 0 1)
    (h0 : p0 = 0 → Q man 0) (h1 : p0 = 1 → Q mtl 0) (h2 : p0 = 2 → Q mtm 0) (h3 : p0 = 3 → Q mrs 0) (h4 : p0 = 4 → Q mlo 0) (h5 : p0 = 5 → Q mhi 0) (h6 : p0 = 6 → Q ma 0) (h7 : p0 = 7 → Q mb 0) : w_X5_told mrs ma mb mlo mhi man mtl mtm thr p0 Q := by
  unfold w_X5_told
  have a7 : (7 : Int32).toInt = 7 := by decide
  refine ⟨fun t => t = 0 ∧ (0 ≤ p0.toInt ∧ p0.toInt ≤ 7) ∨ t = 1 ∧ ¬ (0 ≤ p0.toInt ∧ p0.toInt ≤ 7), ?_, ?_⟩
  · rw [q_lt4, q_le4, z4_0, a7]
    exact ⟨fun c => Or.inr ⟨rfl, by omega⟩, fun c => ⟨fun c2 => Or.inl ⟨rfl, by omega⟩, fun c2 => Or.inr ⟨rfl, by omega⟩⟩⟩
  rintro t (⟨rfl, hv⟩ | ⟨rfl, hv⟩)
  rotate_left
  · exact ⟨fun c => absurd c (by decide), fun _ => h hv⟩
  refine ⟨fun _ => ⟨h0, fun c0 => ⟨h1, fun c1 => ⟨h2, fun c2 => ⟨h3, fun c3 => ⟨h4, fun c4 => ⟨h5, fun c5 => ⟨h6, fun c6 => h7 ?_⟩⟩⟩⟩⟩⟩⟩, fun c => absurd (by decide) c⟩
  rw [q_eq4] at c0 c1 c2 c3 c4 c5 c6 ⊢
  have a0 : (0 : Int32).toInt = 0 := by decide
  have a1 : (1 : Int32).toInt = 1 := by decide
  have a2 : (2 : Int32).toInt = 2 := by decide
  have a3 : (3 : Int32).toInt = 3 := by decide
  have a4 : (4 : Int32).toInt = 4 := by decide
  have a5 : (5 : Int32).toInt = 5 := by decide
  have a6 : (6 : Int32).toInt = 6 := by decide
  omega
theorem thr_i (t : Int32) (Q : Int32 → Prop) (h : Q t) : w_X5_thrown t Q := h
def ST (i4 : Int32) (row : Nat → Int32) (rc : Int32) (wa : Int32) (wb : Int32) (wlo : Int32) (whi : Int32) (wtot : Int64) (lsm : Nat → Int32) (nsm : Int32) (lst : Nat → Int32) (nst : Int32) (lgu : Nat → Int32) (ngu : Int32) (lgd : Nat → Int32) (ngd : Int32) (leu : Nat → Int32) (neu : Int32) (led : Nat → Int32) (ned : Int32) (lfu : Nat → Int32) (nfu : Int32) (lfd : Nat → Int32) (nfd : Int32) (ans : Int32) (rfc : Int32) (rfb : Int32) (mrow : Nat → Int32) (mrs : Int32) (ma : Int32) (mb : Int32) (mlo : Int32) (mhi : Int32) (man : Int32) (mtl : Int32) (mtm : Int32) (fig : Nat → Int64) (len : Nat → Int32) (top : Nat → Int64) (bel : Nat → Int64) (thr : Int32) (trm : Nat → Int32) (who : Nat → Int32) (out : Nat → Int64) : Prop :=
  ∃ k : Nat, i4.toInt = ((7 * k : Nat) : Int) ∧ k ≤ 64 ∧ RW row rc mrow mrs ∧ (ma = wa ∧ mb = wb ∧ mlo = wlo ∧ mhi = whi ∧ tOK wa wb wlo whi ∧ wtot = allM wa wb wlo whi) ∧
    MN (k + 1) lgu ngu lgd ngd leu neu led ned lfu nfu lfd nfd fig len ∧ (man = ans ∧ mtl = rfc ∧ mtm = rfb)
def MU (i4 : Int32) (row : Nat → Int32) (rc : Int32) (wa : Int32) (wb : Int32) (wlo : Int32) (whi : Int32) (wtot : Int64) (lsm : Nat → Int32) (nsm : Int32) (lst : Nat → Int32) (nst : Int32) (lgu : Nat → Int32) (ngu : Int32) (lgd : Nat → Int32) (ngd : Int32) (leu : Nat → Int32) (neu : Int32) (led : Nat → Int32) (ned : Int32) (lfu : Nat → Int32) (nfu : Int32) (lfd : Nat → Int32) (nfd : Int32) (ans : Int32) (rfc : Int32) (rfb : Int32) (mrow : Nat → Int32) (mrs : Int32) (ma : Int32) (mb : Int32) (mlo : Int32) (mhi : Int32) (man : Int32) (mtl : Int32) (mtm : Int32) (fig : Nat → Int64) (len : Nat → Int32) (top : Nat → Int64) (bel : Nat → Int64) (thr : Int32) (trm : Nat → Int32) (who : Nat → Int32) (out : Nat → Int64) : Nat := (1000 - i4.toInt).toNat
theorem law_pure (L : Nat) (xs : Nat → Int32) (hL : L ≤ 448) : w_L_law L xs (fun r => r = 1) := by
  unfold w_L_law
  refine s_X4init _ ?_
  intro s1 s2 s3 s4 a1 a2 a3 a4 b1 b2 b3 b4 c1 c2 c3 c4 h1 h2 h3
  refine s_X5init _ ?_
  intro f l V hA g0 g1 g2 g3
  refine ⟨ST, MU, ⟨0, by decide, by omega, ⟨0, by omega, by decide, rfl, fun j hj => absurd hj (by omega)⟩, ⟨rfl, rfl, rfl, rfl, by unfold tOK; decide, rfl⟩, ⟨0, 1, 0, 1, 0, 1, V, h1, h2, h3, hA, g0, g1, g2, g3, ⟨by decide, by decide, by decide, by decide⟩, ⟨by decide, by decide, by decide, by decide⟩, ⟨by decide, by decide, by decide, by decide⟩, by decide⟩, ⟨rfl, rfl, rfl⟩⟩, ?_⟩
  clear h1 h2 h3 hA g0 g1 g2 g3 V f l s1 s2 s3 s4 a1 a2 a3 a4 b1 b2 b3 b4 c1 c2 c3 c4
  intro i4 row rc wa wb wlo whi wtot lsm nsm lst nst lgu ngu lgd ngd leu neu led ned lfu nfu lfd nfd ans rfc rfb mrow mrs ma mb mlo mhi man mtl mtm fig len top bel thr trm who out
  rintro ⟨k, hi, hk, hR, ⟨ema, emb, emlo, emhi, hT, htot⟩, hM, ⟨eman, emtl, emtm⟩⟩
  subst ema; subst emb; subst emlo; subst emhi; subst htot; subst eman; subst emtl; subst emtm
  have hLi : (Int32.ofNat L).toInt = (L : Int) := Int32.toInt_ofNat_of_lt (by omega)
  have z7 : (7 : Int32).toInt = 7 := by decide
  intro v88 e88
  have ev88 : v88.toInt = (L : Int) - 7 := by rw [e88, v_sub4 hLi z7 (by omega) (by omega)]
  refine ⟨fun _ => rfl, fun c => ?_⟩
  rw [q_lt4, ev88, hi] at c
  have vj : ∀ (j : Int32) (m : Nat), j.toInt = m → m ≤ 6 → vp_in (i4 + j) L := fun j m hj hm => by
    have e := v_add4 hi hj (by omega) (by omega)
    exact q_in _ _ (by rw [e]; omega) (by rw [e]; omega)
  have hv0 : vp_in i4 L := q_in _ _ (by omega) (by omega)
  have hv1 := vj 1 1 (by decide) (by decide)
  have hv2 := vj 2 2 (by decide) (by decide)
  have hv3 := vj 3 3 (by decide) (by decide)
  have hv4 := vj 4 4 (by decide) (by decide)
  have hv5 := vj 5 5 (by decide) (by decide)
  have hv6 := vj 6 6 (by decide) (by decide)
  have hv01 : vp_in 0 1 := by unfold vp_in; decide
  have ei7 : (i4 + 7).toInt = ((7 * (k + 1) : Nat) : Int) := by rw [v_add4 hi z7 (by omega) (by omega)]; omega
  have hmu : ∀ i' : Int32, i' = i4 + 7 → (1000 - i'.toInt).toNat < (1000 - i4.toInt).toNat := by
    rintro i' rfl
    rw [ei7, hi]; omega
  have hnx : ∀ i' : Int32, i' = i4 + 7 → i'.toInt = ((7 * (k + 1) : Nat) : Int) := by
    rintro i' rfl; exact ei7
  have hk1 : k + 1 ≤ 64 := by omega
  have hK : k + 1 ≤ 69 := by omega
  have hM2 := MN_mono (k + 1) (k + 1 + 1) _ _ _ _ _ _ _ _ _ _ _ _ _ _ hM (by omega)
  have hTB : ∀ (a b lo hi : Int32), tOK a b lo hi → (a = a ∧ b = b ∧ lo = lo ∧ hi = hi ∧ tOK a b lo hi ∧ allM a b lo hi = allM a b lo hi) := fun a b lo hi h => ⟨rfl, rfl, rfl, rfl, h, rfl⟩
  have hTB := hTB _ _ _ _ hT
  have hC : ∀ (a b c : Int32), (a = a ∧ b = b ∧ c = c) := fun a b c => ⟨rfl, rfl, rfl⟩
  have hC := hC
  clear ei7 ev88 e88 vj c
  have hR' := hR
  obtain ⟨n, hn, hrc, emrs, hj⟩ := hR'
  subst emrs
  have hT' := hT
  obtain ⟨t1, t2, t3, t4, t5, t6, t7⟩ := hT'
  obtain ⟨a, ha⟩ := Int.eq_ofNat_of_zero_le (show 0 ≤ ma.toInt by omega)
  obtain ⟨b, hb⟩ := Int.eq_ofNat_of_zero_le (show 0 ≤ mb.toInt by omega)
  have ta : 1 ≤ a := by omega
  have tab : a < b := by omega
  have tb : b ≤ 10 := by omega
  clear t1 t2 t3 t4 t5 t6 t7
  refine ⟨hv0, ?_⟩
  intro v89 _
  refine ⟨fun _ => ?_, fun _ => ⟨fun _ => ?_, fun _ => ⟨fun _ => ?_, fun _ => ⟨fun _ => ?_, fun _ => ⟨fun _ => ?_, fun _ => ⟨fun _ => ?_, fun _ => ⟨fun _ => ?_, fun _ => ⟨fun _ => ?_, fun _ => ⟨fun _ => ?_, fun _ => ⟨fun _ => ?_, fun _ => ⟨fun _ => ?_, fun _ => ⟨fun _ => ?_, fun _ => ⟨fun _ => ?_, fun _ => ⟨fun _ => ?_, fun _ => ⟨fun _ => ?_, fun _ => ⟨fun _ => ?_, fun _ => ?_⟩⟩⟩⟩⟩⟩⟩⟩⟩⟩⟩⟩⟩⟩⟩⟩
  · refine ⟨hv1, ?_⟩
    refine o_add _ _ _ _ _ _ _ _ hR hv1 ?_
    intro r row' rc' mrow' mrs' hR2
    exact ⟨fun _ => fun i' e' => ⟨⟨k + 1, hnx i' e', hk1, hR2, hTB, hM2, (hC _ _ _)⟩, hmu i' e'⟩, fun c => absurd rfl c⟩
  · refine ⟨hv1, ?_⟩
    unfold w_L_remove
    refine s_cremove _ _ _ n _ _ hn hrc (fun hx => ?_) (fun p hp hpn row' hrm => ?_)
    · refine ⟨hv1, ?_⟩
      refine s_mremove _ _ _ _ n _ hn hrc (fun _ => ?_) (fun p hp hpn mrow' hrm => absurd ⟨by omega, by omega⟩ hx)
      exact thr_i _ _ ⟨fun _ => ⟨fun _ => fun i' e' => ⟨⟨k + 1, hnx i' e', hk1, hR, hTB, hM2, (hC _ _ _)⟩, hmu i' e'⟩, fun c => absurd c (by decide)⟩, fun c => absurd rfl c⟩
    · refine ⟨hv01, ?_⟩
      intro out5 e5
      refine ⟨hv1, ?_⟩
      refine s_mremove _ _ _ _ n _ hn hrc (fun hx => absurd ⟨by omega, by omega⟩ hx) (fun p' hp' hpn' mrow' hrm' => ?_)
      have epp : p' = p := by omega
      subst epp
      exact thr_i _ _ ⟨fun _ => ⟨fun c => absurd rfl c, fun _ => ⟨hv01, fun _ => fun i' e' => ⟨⟨k + 1, hnx i' e', hk1, RW_rm _ _ _ _ _ n _ hn hrc hpn hj hrm hrm', hTB, hM2, (hC _ _ _)⟩, hmu i' e'⟩, fun c => absurd (by rw [e5, updL_e, hj _ hpn]) c⟩⟩, fun c => absurd rfl c⟩
  · refine ⟨hv1, hv2, ?_⟩
    refine s_ccount _ _ _ _ n _ hn hrc ?_
    refine ⟨hv1, hv2, ?_⟩
    unfold w_X5_count
    refine s_mcount _ _ _ _ n _ hn hrc ?_
    exact ⟨fun _ => fun i' e' => ⟨⟨k + 1, hnx i' e', hk1, hR, hTB, hM2, (hC _ _ _)⟩, hmu i' e'⟩, fun c => absurd (cnt_ext _ _ _ _ n hj) c⟩
  · refine ⟨hv1, hv2, hv3, hv4, ?_⟩
    unfold w_L_table w_X4_table
    refine s_allowed _ _ _ _ _ (fun hv => ⟨fun _ => ?_, fun c => absurd c (by decide)⟩) (fun hv => ⟨fun c => absurd rfl c, fun _ => ?_⟩)
    · refine s_tbecome _ _ _ _ _ _ _ _ _ _ ?_
      refine ⟨hv01, ?_⟩
      intro out8 e8
      refine ⟨hv1, hv2, hv3, hv4, ?_⟩
      refine s_mtable _ _ _ _ _ _ _ _ _ _ (fun _ => ?_) (fun h => absurd hv h)
      exact thr_i _ _ ⟨fun _ => ⟨fun c => absurd rfl c, fun _ => ⟨hv01, fun _ => fun i' e' => ⟨⟨k + 1, hnx i' e', hk1, hR, ⟨rfl, rfl, rfl, rfl, hv, rfl⟩, hM2, (hC _ _ _)⟩, hmu i' e'⟩, fun c => absurd (by rw [e8, updL_e]) c⟩⟩, fun c => absurd rfl c⟩
    · refine ⟨hv1, hv2, hv3, hv4, ?_⟩
      refine s_mtable _ _ _ _ _ _ _ _ _ _ (fun h => absurd h hv) (fun _ => ?_)
      exact thr_i _ _ ⟨fun _ => ⟨fun _ => fun i' e' => ⟨⟨k + 1, hnx i' e', hk1, hR, hTB, hM2, (hC _ _ _)⟩, hmu i' e'⟩, fun c => absurd c (by decide)⟩, fun c => absurd rfl c⟩
  · unfold w_X4_all w_X5_all
    refine s_allOf _ _ _ _ _ ?_
    exact ⟨fun _ => fun i' e' => ⟨⟨k + 1, hnx i' e', hk1, hR, hTB, hM2, (hC _ _ _)⟩, hmu i' e'⟩, fun c => absurd rfl c⟩
  · refine ⟨hv1, hv2, ?_⟩
    unfold w_X4_weight w_X5_weight
    refine s_weight3 _ _ _ _ _ _ _ _ rfl ?_
    refine ⟨hv1, hv2, ?_⟩
    refine s_weight5 _ _ _ _ _ _ _ ?_
    exact ⟨fun _ => fun i' e' => ⟨⟨k + 1, hnx i' e', hk1, hR, hTB, hM2, (hC _ _ _)⟩, hmu i' e'⟩, fun c => absurd rfl c⟩
  · refine ⟨hv1, hv2, ?_⟩
    unfold w_X4_upTo
    refine s_sum3 _ _ _ _ _ _ _ _ hT rfl ?_
    refine ⟨hv1, hv2, ?_⟩
    refine s_sum5 _ _ _ _ _ _ _ _ hT ?_
    exact ⟨fun _ => fun i' e' => ⟨⟨k + 1, hnx i' e', hk1, hR, hTB, hM2, (hC _ _ _)⟩, hmu i' e'⟩, fun c => absurd rfl c⟩
  · refine ⟨hv1, hv2, ?_⟩
    rintro v160 rfl
    refine ⟨hv3, ?_⟩
    rintro v161 rfl
    unfold w_L_draw
    refine s_cdraw _ _ _ _ _ _ _ _ hT (fun hx => ?_) (fun hin hco k' hk' => ?_)
    · refine ⟨hv1, hv2, ?_⟩
      rintro v164 rfl
      refine ⟨hv3, ?_⟩
      rintro v165 rfl
      refine s_mdraw _ _ _ _ _ _ _ _ hT (fun _ => ?_) (fun hin hco => absurd ⟨hin, hco⟩ hx)
      exact thr_i _ _ ⟨fun _ => ⟨fun _ => fun i' e' => ⟨⟨k + 1, hnx i' e', hk1, hR, hTB, hM2, (hC _ _ _)⟩, hmu i' e'⟩, fun c => absurd c (by decide)⟩, fun c => absurd rfl c⟩
    · refine ⟨hv01, ?_⟩
      intro out3 e3
      refine ⟨hv1, hv2, ?_⟩
      rintro v164 rfl
      refine ⟨hv3, ?_⟩
      rintro v165 rfl
      refine s_mdraw _ _ _ _ _ _ _ _ hT (fun hx => absurd ⟨hin, hco⟩ hx) (fun _ _ k'' hk'' => ?_)
      have ekk := oM_u _ _ _ _ _ _ _ _ hk'' hk'
      subst ekk
      exact thr_i _ _ ⟨fun _ => ⟨fun c => absurd rfl c, fun _ => ⟨hv01, fun _ => fun i' e' => ⟨⟨k + 1, hnx i' e', hk1, hR, hTB, hM2, (hC _ _ _)⟩, hmu i' e'⟩, fun c => absurd (by rw [e3, updL_e]) c⟩⟩, fun c => absurd rfl c⟩
  · refine ⟨hv1, hv2, ?_⟩
    unfold w_L_isNear
    refine s_cisNear _ _ _ _ _ _ _ _ hT (fun hx => ?_) (fun hx hy => ⟨fun c => absurd c (by decide), fun _ => ⟨hv01, ?_⟩⟩) (fun hx hy => ⟨fun _ => ⟨hv01, ?_⟩, fun c => absurd rfl c⟩)
    · refine ⟨hv1, hv2, ?_⟩
      refine s_near5 _ _ _ _ _ _ _ _ hT (fun _ => ?_) (fun h => absurd hx h) (fun h => absurd hx h)
      exact thr_i _ _ ⟨fun _ => ⟨fun _ => fun i' e' => ⟨⟨k + 1, hnx i' e', hk1, hR, hTB, hM2, (hC _ _ _)⟩, hmu i' e'⟩, fun c => absurd c (by decide)⟩, fun c => absurd rfl c⟩
    · intro out4 e4
      refine ⟨hv1, hv2, ?_⟩
      refine s_near5 _ _ _ _ _ _ _ _ hT (fun h => absurd h hx) (fun _ _ => ?_) (fun _ h => absurd hy h)
      exact thr_i _ _ ⟨fun _ => ⟨fun c => absurd rfl c, fun _ => ⟨hv01, ⟨fun c => absurd c (by decide), fun _ => ⟨fun _ => fun i' e' => ⟨⟨k + 1, hnx i' e', hk1, hR, hTB, hM2, (hC _ _ _)⟩, hmu i' e'⟩, fun c => absurd (by rw [e4, updL_e]) c⟩⟩⟩⟩, fun c => absurd rfl c⟩
    · intro out4 e4
      refine ⟨hv1, hv2, ?_⟩
      refine s_near5 _ _ _ _ _ _ _ _ hT (fun h => absurd h hx) (fun _ h => absurd h hy) (fun _ _ => ?_)
      exact thr_i _ _ ⟨fun _ => ⟨fun c => absurd rfl c, fun _ => ⟨hv01, ⟨fun _ => ⟨fun _ => fun i' e' => ⟨⟨k + 1, hnx i' e', hk1, hR, hTB, hM2, (hC _ _ _)⟩, hmu i' e'⟩, fun c => absurd (by rw [e4, updL_e]) c⟩, fun c => absurd rfl c⟩⟩⟩, fun c => absurd rfl c⟩
  · refine ⟨hv1, hv2, ?_⟩
    unfold w_L_budget
    obtain ⟨Ng, Dg, Ne, De, Nf, Df, V, m1, m2, m3, m4, m5, m6, m7, m8, m9, m10, m11, m12⟩ := hM
    refine s_cbudget _ _ _ _ _ _ _ _ _ _ _ _ _ _ _ _ _ _ _ (fun hx => ?_) (fun p q hp hq hq0 hq1 x1 x2 x3 x4 y1 y2 y3 y4 z1 z2 z3 z4 f1 f2 f3 => ?_)
    · refine ⟨hv1, hv2, ?_⟩
      refine s_mbudget _ _ _ _ _ _ _ _ _ _ V _ m4 (fun _ => ?_) (fun p q hp hq hq0 hq1 => absurd ⟨by omega, by omega, by omega⟩ hx)
      exact thr_i _ _ ⟨fun _ => fun i' e' => ⟨⟨k + 1, hnx i' e', hk1, hR, hTB, hM2, (hC _ _ _)⟩, hmu i' e'⟩, fun c => absurd rfl c⟩
    · refine ⟨hv1, hv2, ?_⟩
      refine s_mbudget _ _ _ _ _ _ _ _ _ _ V _ m4 (fun hx => absurd ⟨by omega, by omega, by omega⟩ hx) (fun p' q' hp' hq' _ _ f l t be V' hA' u0 u1 u2 u3 => ?_)
      have epp : p' = p := by omega
      have eqq : q' = q := by omega
      subst epp; subst eqq
      have r0 := q_r4 (xs (i4 + 1).toNatClampNeg)
      have nb := bd_new p' q' (by omega) hq0 hq1
      have nb2 := bd_mono 1 (k + 1 + 1) _ _ nb (by omega)
      have z01 : bd (k + 1 + 1) 0 1 := bd_mono 1 (k + 1 + 1) 0 1 ⟨by decide, by decide, by decide, by decide⟩ (by omega)
      have hMM : MN (k + 1 + 1) x1 x2 x3 x4 y1 y2 y3 y4 z1 z2 z3 z4 f l := ⟨_, _, 0, 1, _, _, V', f1, f2, f3, hA', u0, u1, u2, u3, nb2, z01, nb2, by rw [Nat.mul_one, Nat.zero_mul, Nat.zero_mul, Nat.add_zero, Nat.mul_one]⟩
      exact thr_i _ _ ⟨fun _ => fun i' e' => ⟨⟨k + 1, hnx i' e', hk1, hR, hTB, hMM, (hC _ _ _)⟩, hmu i' e'⟩, fun c => absurd rfl c⟩
  · refine ⟨hv1, hv2, ?_⟩
    unfold w_L_raise
    obtain ⟨Ng, Dg, Ne, De, Nf, Df, V, m1, m2, m3, m4, m5, m6, m7, m8, m9, m10, m11, m12⟩ := hM
    refine s_craise _ _ _ _ _ _ _ _ _ _ (k + 1) Ng Dg Nf Df _ _ m1 m3 m9 m11 (by omega) (fun hx => ?_) (fun p q hp hq hq0 hq1 x1 x2 x3 x4 z1 z2 z3 z4 N1 D1 N2 D2 f1 f2 bd1 bd2 e1 e2 => ?_)
    · refine ⟨hv1, hv2, ?_⟩
      refine s_mraise _ _ _ _ _ _ _ V (k + 1) Ng Dg _ m4 (by omega) m5 m6 m9 (fun _ => ?_) (fun p q hp hq hq0 hq1 => absurd ⟨by omega, by omega, by omega⟩ hx)
      exact thr_i _ _ ⟨fun _ => fun i' e' => ⟨⟨k + 1, hnx i' e', hk1, hR, hTB, hM2, (hC _ _ _)⟩, hmu i' e'⟩, fun c => absurd rfl c⟩
    · refine ⟨hv1, hv2, ?_⟩
      refine s_mraise _ _ _ _ _ _ _ V (k + 1) Ng Dg _ m4 (by omega) m5 m6 m9 (fun hx => absurd ⟨by omega, by omega, by omega⟩ hx) (fun p' q' hp' hq' _ _ f l t be V' hA' u2 u3 uu => ?_)
      have epp : p' = p := by omega
      have eqq : q' = q := by omega
      subst epp; subst eqq
      have u := uu N1 D1 bd1.2.2.2 bd1.1 e1
      have hMM : MN (k + 1 + 1) x1 x2 x3 x4 leu neu led ned z1 z2 z3 z4 f l := ⟨N1, D1, Ne, De, N2, D2, V', f1, m2, f2, hA', u.1, u.2, by rw [u2, m7], by rw [u3, m8], bd1, bd_mono _ _ _ _ m10 (by omega), bd2, eq_raise Ng Dg Ne De Nf Df p' q' N1 D1 N2 D2 m9.1 m11.1 hq0 m12 e1 e2⟩
      exact thr_i _ _ ⟨fun _ => fun i' e' => ⟨⟨k + 1, hnx i' e', hk1, hR, hTB, hMM, (hC _ _ _)⟩, hmu i' e'⟩, fun c => absurd rfl c⟩
  · refine ⟨hv1, hv2, ?_⟩
    unfold w_L_isEnough
    refine s_cisEn _ _ _ _ _ _ _ _ a b _ _ ha hb ta tab tb (fun hx => ?_) (fun hx p q hp hq r s1 s2 s3 s4 hr => ?_)
    · refine ⟨hv1, hv2, ?_⟩
      refine s_misEn _ _ _ _ _ _ _ a b _ ha hb ta tab tb (fun _ => ?_) (fun h p q hp hq r t w hr => absurd h hx)
      exact thr_i _ _ ⟨fun _ => ⟨fun _ => fun i' e' => ⟨⟨k + 1, hnx i' e', hk1, hR, hTB, hM2, (hC _ _ _)⟩, hmu i' e'⟩, fun c => absurd c (by decide)⟩, fun c => absurd rfl c⟩
    · have fin2 : ∀ (F : Int32 → Int32 → (Nat → Int32) → (Nat → Int32) → Prop), (∀ r' t w, r' = r → F r' 0 t w) → w_X5_isEnough ma mb thr trm who (xs (i4 + 1).toNatClampNeg) (xs (i4 + 2).toNatClampNeg) F := by
        intro F hF
        refine s_misEn _ _ _ _ _ _ _ a b _ ha hb ta tab tb (fun h => absurd hx h) (fun _ p' q' hp' hq' r' t w hr' => hF r' t w ?_)
        have epp : p' = p := by omega
        have eqq : q' = q := by omega
        subst epp; subst eqq
        rcases hr with ⟨x, y⟩ | ⟨x, y⟩ <;> rcases hr' with ⟨x', y'⟩ | ⟨x', y'⟩
        · rw [x, x']
        · exact absurd y y'
        · exact absurd y' y
        · rw [x, x']
      rcases hr with ⟨rfl, hy⟩ | ⟨rfl, hy⟩
      · refine ⟨fun c => absurd c (by decide), fun _ => ⟨hv01, ?_⟩⟩
        intro out4 e4
        refine ⟨hv1, hv2, ?_⟩
        refine fin2 _ ?_
        rintro r' t w rfl
        exact thr_i _ _ ⟨fun _ => ⟨fun c => absurd rfl c, fun _ => ⟨hv01, ⟨fun c => absurd c (by decide), fun _ => ⟨fun _ => fun i' e' => ⟨⟨k + 1, hnx i' e', hk1, hR, hTB, hM2, (hC _ _ _)⟩, hmu i' e'⟩, fun c => absurd (by rw [e4, updL_e]) c⟩⟩⟩⟩, fun c => absurd rfl c⟩
      · refine ⟨fun _ => ⟨hv01, ?_⟩, fun c => absurd rfl c⟩
        intro out4 e4
        refine ⟨hv1, hv2, ?_⟩
        refine fin2 _ ?_
        rintro r' t w rfl
        exact thr_i _ _ ⟨fun _ => ⟨fun c => absurd rfl c, fun _ => ⟨hv01, ⟨fun _ => ⟨fun _ => fun i' e' => ⟨⟨k + 1, hnx i' e', hk1, hR, hTB, hM2, (hC _ _ _)⟩, hmu i' e'⟩, fun c => absurd (by rw [e4, updL_e]) c⟩, fun c => absurd rfl c⟩⟩⟩, fun c => absurd rfl c⟩
  · refine ⟨hv1, ?_⟩
    unfold w_L_least
    refine s_cleast _ _ _ _ _ _ _ a b _ _ ha hb ta tab tb (fun hx => ?_) (fun q m r s1 s2 s3 s4 hq hq0 hq1 hr hm => ?_)
    · refine ⟨hv1, ?_⟩
      refine s_mleast _ _ _ _ _ _ a b _ ha hb ta tab tb (fun _ => ?_) (fun q m r t w hq hq0 hq1 hr hm => absurd ⟨by omega, by omega⟩ hx)
      exact thr_i _ _ ⟨fun _ => ⟨fun _ => fun i' e' => ⟨⟨k + 1, hnx i' e', hk1, hR, hTB, hM2, (hC _ _ _)⟩, hmu i' e'⟩, fun c => absurd c (by decide)⟩, fun c => absurd rfl c⟩
    · refine ⟨hv01, ?_⟩
      intro out7 e7
      refine ⟨hv1, ?_⟩
      refine s_mleast _ _ _ _ _ _ a b _ ha hb ta tab tb (fun hx => absurd ⟨by omega, by omega⟩ hx) (fun q' m' r' t w hq' hq0' hq1' hr' hm' => ?_)
      have eqq : q' = q := by omega
      subst eqq
      have emm : m' = m := Nat.le_antisymm (xL_le a b q' m m' (by omega) hm hm') (xL_le a b q' m' m (by omega) hm' hm)
      have err : r = r' := by rw [q_eq4, hr, hr', emm]
      subst err
      exact thr_i _ _ ⟨fun _ => ⟨fun c => absurd rfl c, fun _ => ⟨hv01, fun _ => fun i' e' => ⟨⟨k + 1, hnx i' e', hk1, hR, hTB, hM2, (hC _ _ _)⟩, hmu i' e'⟩, fun c => absurd (by rw [e7, updL_e]) c⟩⟩, fun c => absurd rfl c⟩
  · refine ⟨hv1, hv2, hv3, hv4, hv5, ?_⟩
    rintro v272 rfl
    refine ⟨hv6, ?_⟩
    rintro v273 rfl
    unfold w_L_ask
    have hM0 := hM
    obtain ⟨Ng, Dg, Ne, De, Nf, Df, V, m1, m2, m3, m4, m5, m6, m7, m8, m9, m10, m11, m12⟩ := hM
    have ecnt := cnt_ext row mrow (xs (i4 + 1).toNatClampNeg) (xs (i4 + 2).toNatClampNeg) n hj
    refine s_cask _ _ _ _ _ _ _ _ _ _ _ _ _ _ _ _ _ _ _ _ _ _ _ _ _ _ _ _ n (k + 1) Ne De Nf Df _ hn hrc hT rfl m2 m3 m10 m11 (by omega) (fun hx => ?_) (fun a' b' p q ha' hb' hp hq hq0 hq1 hco hcn => ⟨fun hr s1 s2 s3 s4 => ?_, fun hr hlt s1 s2 s3 s4 => ?_, fun hr hge s1 s2 s3 s4 y1 y2 y3 y4 z1 z2 z3 z4 N1 D1 N2 D2 o f1 f2 bd1 bd2 e1 e2 ho => ?_⟩)
    · refine ⟨hv1, hv2, hv3, hv4, hv5, ?_⟩
      rintro v291 rfl
      refine ⟨hv6, ?_⟩
      rintro v292 rfl
      refine s_mask _ _ _ _ _ _ _ _ _ _ _ _ _ _ _ _ _ _ _ _ _ n (k + 1) Ng Dg Ne De Nf Df V _ hn hrc hT m4 m5 m6 m7 m8 m9 m10 m11 hK m12 (fun _ => ?_) (fun a' b' p q ha' hb' hp hq hq0 hq1 hco hcn => absurd ⟨hco, hcn⟩ hx)
      exact thr_i _ _ ⟨fun _ => ⟨fun _ => fun i' e' => ⟨⟨k + 1, hnx i' e', hk1, hR, hTB, hM2, (hC _ _ _)⟩, hmu i' e'⟩, fun c => absurd c (by decide)⟩, fun c => absurd rfl c⟩
    · refine ⟨hv01, ?_⟩
      intro out18 e18
      refine ⟨hv1, hv2, hv3, hv4, hv5, ?_⟩
      rintro v291 rfl
      refine ⟨hv6, ?_⟩
      rintro v292 rfl
      refine s_mask _ _ _ _ _ _ _ _ _ _ _ _ _ _ _ _ _ _ _ _ _ n (k + 1) Ng Dg Ne De Nf Df V _ hn hrc hT m4 m5 m6 m7 m8 m9 m10 m11 hK m12 (fun hx => absurd ⟨hco, hcn⟩ hx) (fun a'' b'' p' q' ha'' hb'' hp' hq' _ _ _ _ => ?_)
      have eaa : a'' = a' := by omega
      have ebb : b'' = b' := by omega
      have epp : p' = p := by omega
      have eqq : q' = q := by omega
      subst eaa; subst ebb; subst epp; subst eqq
      refine ⟨fun _ t w => ?_, fun h => absurd h hr, fun h => absurd h hr⟩
      exact thr_i _ _ ⟨fun _ => ⟨fun c => absurd rfl c, fun _ => ⟨hv01, fun _ => fun i' e' => ⟨⟨k + 1, hnx i' e', hk1, hR, hTB, hM2, (hC _ _ _)⟩, hmu i' e'⟩, fun c => absurd (by rw [e18, updL_e]) c⟩⟩, fun c => absurd rfl c⟩
    · refine ⟨hv01, ?_⟩
      intro out18 e18
      refine ⟨hv1, hv2, hv3, hv4, hv5, ?_⟩
      rintro v291 rfl
      refine ⟨hv6, ?_⟩
      rintro v292 rfl
      refine s_mask _ _ _ _ _ _ _ _ _ _ _ _ _ _ _ _ _ _ _ _ _ n (k + 1) Ng Dg Ne De Nf Df V _ hn hrc hT m4 m5 m6 m7 m8 m9 m10 m11 hK m12 (fun hx => absurd ⟨hco, hcn⟩ hx) (fun a'' b'' p' q' ha'' hb'' hp' hq' _ _ _ _ => ?_)
      have eaa : a'' = a' := by omega
      have ebb : b'' = b' := by omega
      have epp : p' = p := by omega
      have eqq : q' = q := by omega
      subst eaa; subst ebb; subst epp; subst eqq
      refine ⟨fun h => absurd hr h, fun _ _ t w f l tt be V' hA' hs => ?_, fun _ h => absurd hlt h⟩
      have hMM := MN_mono (k + 1) (k + 1 + 1) lgu ngu lgd ngd leu neu led ned lfu nfu lfd nfd f l ⟨Ng, Dg, Ne, De, Nf, Df, V', m1, m2, m3, hA', by rw [hs 0 (by decide), m5], by rw [hs 1 (by decide), m6], by rw [hs 2 (by decide), m7], by rw [hs 3 (by decide), m8], m9, m10, m11, m12⟩ (by omega)
      exact thr_i _ _ ⟨fun _ => ⟨fun c => absurd rfl c, fun _ => ⟨hv01, fun _ => fun i' e' => ⟨⟨k + 1, hnx i' e', hk1, hR, hTB, hMM, (hC _ _ _)⟩, hmu i' e'⟩, fun c => absurd (by rw [e18, updL_e]) c⟩⟩, fun c => absurd rfl c⟩
    · refine ⟨hv01, ?_⟩
      intro out18 e18
      refine ⟨hv1, hv2, hv3, hv4, hv5, ?_⟩
      rintro v291 rfl
      refine ⟨hv6, ?_⟩
      rintro v292 rfl
      refine s_mask _ _ _ _ _ _ _ _ _ _ _ _ _ _ _ _ _ _ _ _ _ n (k + 1) Ng Dg Ne De Nf Df V _ hn hrc hT m4 m5 m6 m7 m8 m9 m10 m11 hK m12 (fun hx => absurd ⟨hco, hcn⟩ hx) (fun a'' b'' p' q' ha'' hb'' hp' hq' _ _ _ _ => ?_)
      have eaa : a'' = a' := by omega
      have ebb : b'' = b' := by omega
      have epp : p' = p := by omega
      have eqq : q' = q := by omega
      subst eaa; subst ebb; subst epp; subst eqq
      refine ⟨fun h => absurd hr h, fun _ h => absurd h hge, fun _ _ t w f l tt be V' o' hA' u0 u1 uu ho' => ?_⟩
      rw [← ecnt] at ho'
      have eoo := oM_u _ _ _ _ _ _ _ _ ho' ho
      subst eoo
      have u := uu N1 D1 bd1.2.2.2 bd1.1 e1
      have hMM : MN (k + 1 + 1) lgu ngu lgd ngd y1 y2 y3 y4 z1 z2 z3 z4 f l := ⟨Ng, Dg, N1, D1, N2, D2, V', m1, f1, f2, hA', u0, u1, u.1, u.2, bd_mono _ _ _ _ m9 (by omega), bd1, bd2, eq_ask Ng Dg Ne De Nf Df p' q' N1 D1 N2 D2 m10.1 m11.1 hq0 m12 e1 e2⟩
      exact thr_i _ _ ⟨fun _ => ⟨fun c => absurd rfl c, fun _ => ⟨hv01, fun _ => fun i' e' => ⟨⟨k + 1, hnx i' e', hk1, hR, hTB, hMM, (hC _ _ _)⟩, hmu i' e'⟩, fun c => absurd (by rw [e18, updL_e]) c⟩⟩, fun c => absurd rfl c⟩
  · refine ⟨hv1, hv2, hv3, ?_⟩
    unfold w_L_limb
    obtain ⟨Ng, Dg, Ne, De, Nf, Df, V, m1, m2, m3, m4, m5, m6, m7, m8, m9, m10, m11, m12⟩ := hM
    refine s_climb _ _ _ _ _ _ _ _ _ _ _ _ _ _ _ _ _ Ng Dg Ne De Nf Df m1 m2 m3 (fun hx => ?_) (fun hx r hr => ?_)
    · refine ⟨hv1, hv2, hv3, ?_⟩
      refine s_mlimb _ _ _ _ _ _ _ _ _ (k + 1) Ng Dg Ne De Nf Df V m4 m5 m6 m7 m8 m9 m10 m11 (by omega) m12 (fun _ => ?_) (fun h => absurd h hx)
      exact thr_i _ _ ⟨fun _ => ⟨fun _ => fun i' e' => ⟨⟨k + 1, hnx i' e', hk1, hR, hTB, hM2, (hC _ _ _)⟩, hmu i' e'⟩, fun c => absurd c (by decide)⟩, fun c => absurd rfl c⟩
    · refine ⟨hv01, ?_⟩
      intro out3 e3
      refine ⟨hv1, hv2, hv3, ?_⟩
      refine s_mlimb _ _ _ _ _ _ _ _ _ (k + 1) Ng Dg Ne De Nf Df V m4 m5 m6 m7 m8 m9 m10 m11 (by omega) m12 (fun h => absurd hx h) (fun _ r' f l t be V' hA' hs hr' => ?_)
      have err := lR_u _ _ _ _ hr hr'
      subst err
      have hMM := MN_mono (k + 1) (k + 1 + 1) lgu ngu lgd ngd leu neu led ned lfu nfu lfd nfd f l ⟨Ng, Dg, Ne, De, Nf, Df, V', m1, m2, m3, hA', by rw [hs 0 (by decide), m5], by rw [hs 1 (by decide), m6], by rw [hs 2 (by decide), m7], by rw [hs 3 (by decide), m8], m9, m10, m11, m12⟩ (by omega)
      exact thr_i _ _ ⟨fun _ => ⟨fun c => absurd rfl c, fun _ => ⟨hv01, fun _ => fun i' e' => ⟨⟨k + 1, hnx i' e', hk1, hR, hTB, hMM, (hC _ _ _)⟩, hmu i' e'⟩, fun c => absurd (by rw [e3, updL_e]) c⟩⟩, fun c => absurd rfl c⟩
  · refine ⟨hv1, ?_⟩
    unfold w_L_told
    have tno : ∀ x : Int32, x = 0 ∨ x = 1 ∨ x = 2 ∨ x = 3 ∨ x = 4 ∨ x = 5 ∨ x = 6 ∨ x = 7 → (0 ≤ x.toInt ∧ x.toInt ≤ 7) := by
      rintro x (rfl | rfl | rfl | rfl | rfl | rfl | rfl | rfl) <;> decide
    refine s_ctold _ _ _ _ _ _ _ _ _ _ _ (fun hx => ?_) (fun ex => ?_) (fun ex => ?_) (fun ex => ?_) (fun ex => ?_) (fun ex => ?_) (fun ex => ?_) (fun ex => ?_) (fun ex => ?_)
    · refine ⟨hv1, ?_⟩
      refine s_mtold _ _ _ _ _ _ _ _ _ _ _ (fun _ => ?_) (fun ey => absurd (tno _ (by simp only [ey, true_or, or_true])) hx) (fun ey => absurd (tno _ (by simp only [ey, true_or, or_true])) hx) (fun ey => absurd (tno _ (by simp only [ey, true_or, or_true])) hx) (fun ey => absurd (tno _ (by simp only [ey, true_or, or_true])) hx) (fun ey => absurd (tno _ (by simp only [ey, true_or, or_true])) hx) (fun ey => absurd (tno _ (by simp only [ey, true_or, or_true])) hx) (fun ey => absurd (tno _ (by simp only [ey, true_or, or_true])) hx) (fun ey => absurd (tno _ (by simp only [ey, true_or, or_true])) hx)
      exact thr_i _ _ ⟨fun _ => ⟨fun _ => fun i' e' => ⟨⟨k + 1, hnx i' e', hk1, hR, hTB, hM2, (hC _ _ _)⟩, hmu i' e'⟩, fun c => absurd c (by decide)⟩, fun c => absurd rfl c⟩
    · refine ⟨hv01, ?_⟩
      intro out3 e3
      refine ⟨hv1, ?_⟩
      refine s_mtold _ _ _ _ _ _ _ _ _ _ _ (fun hx => absurd (tno _ (by simp only [ex, true_or, or_true])) hx) (fun ey => ?_) (fun ey => absurd (ex.symm.trans ey) (by decide)) (fun ey => absurd (ex.symm.trans ey) (by decide)) (fun ey => absurd (ex.symm.trans ey) (by decide)) (fun ey => absurd (ex.symm.trans ey) (by decide)) (fun ey => absurd (ex.symm.trans ey) (by decide)) (fun ey => absurd (ex.symm.trans ey) (by decide)) (fun ey => absurd (ex.symm.trans ey) (by decide))
      exact thr_i _ _ ⟨fun _ => ⟨fun c => absurd rfl c, fun _ => ⟨hv01, fun _ => fun i' e' => ⟨⟨k + 1, hnx i' e', hk1, hR, hTB, hM2, (hC _ _ _)⟩, hmu i' e'⟩, fun c => absurd (by rw [e3, updL_e]) c⟩⟩, fun c => absurd rfl c⟩
    · refine ⟨hv01, ?_⟩
      intro out3 e3
      refine ⟨hv1, ?_⟩
      refine s_mtold _ _ _ _ _ _ _ _ _ _ _ (fun hx => absurd (tno _ (by simp only [ex, true_or, or_true])) hx) (fun ey => absurd (ex.symm.trans ey) (by decide)) (fun ey => ?_) (fun ey => absurd (ex.symm.trans ey) (by decide)) (fun ey => absurd (ex.symm.trans ey) (by decide)) (fun ey => absurd (ex.symm.trans ey) (by decide)) (fun ey => absurd (ex.symm.trans ey) (by decide)) (fun ey => absurd (ex.symm.trans ey) (by decide)) (fun ey => absurd (ex.symm.trans ey) (by decide))
      exact thr_i _ _ ⟨fun _ => ⟨fun c => absurd rfl c, fun _ => ⟨hv01, fun _ => fun i' e' => ⟨⟨k + 1, hnx i' e', hk1, hR, hTB, hM2, (hC _ _ _)⟩, hmu i' e'⟩, fun c => absurd (by rw [e3, updL_e]) c⟩⟩, fun c => absurd rfl c⟩
    · refine ⟨hv01, ?_⟩
      intro out3 e3
      refine ⟨hv1, ?_⟩
      refine s_mtold _ _ _ _ _ _ _ _ _ _ _ (fun hx => absurd (tno _ (by simp only [ex, true_or, or_true])) hx) (fun ey => absurd (ex.symm.trans ey) (by decide)) (fun ey => absurd (ex.symm.trans ey) (by decide)) (fun ey => ?_) (fun ey => absurd (ex.symm.trans ey) (by decide)) (fun ey => absurd (ex.symm.trans ey) (by decide)) (fun ey => absurd (ex.symm.trans ey) (by decide)) (fun ey => absurd (ex.symm.trans ey) (by decide)) (fun ey => absurd (ex.symm.trans ey) (by decide))
      exact thr_i _ _ ⟨fun _ => ⟨fun c => absurd rfl c, fun _ => ⟨hv01, fun _ => fun i' e' => ⟨⟨k + 1, hnx i' e', hk1, hR, hTB, hM2, (hC _ _ _)⟩, hmu i' e'⟩, fun c => absurd (by rw [e3, updL_e]) c⟩⟩, fun c => absurd rfl c⟩
    · refine ⟨hv01, ?_⟩
      intro out3 e3
      refine ⟨hv1, ?_⟩
      refine s_mtold _ _ _ _ _ _ _ _ _ _ _ (fun hx => absurd (tno _ (by simp only [ex, true_or, or_true])) hx) (fun ey => absurd (ex.symm.trans ey) (by decide)) (fun ey => absurd (ex.symm.trans ey) (by decide)) (fun ey => absurd (ex.symm.trans ey) (by decide)) (fun ey => ?_) (fun ey => absurd (ex.symm.trans ey) (by decide)) (fun ey => absurd (ex.symm.trans ey) (by decide)) (fun ey => absurd (ex.symm.trans ey) (by decide)) (fun ey => absurd (ex.symm.trans ey) (by decide))
      exact thr_i _ _ ⟨fun _ => ⟨fun c => absurd rfl c, fun _ => ⟨hv01, fun _ => fun i' e' => ⟨⟨k + 1, hnx i' e', hk1, hR, hTB, hM2, (hC _ _ _)⟩, hmu i' e'⟩, fun c => absurd (by rw [e3, updL_e]) c⟩⟩, fun c => absurd rfl c⟩
    · refine ⟨hv01, ?_⟩
      intro out3 e3
      refine ⟨hv1, ?_⟩
      refine s_mtold _ _ _ _ _ _ _ _ _ _ _ (fun hx => absurd (tno _ (by simp only [ex, true_or, or_true])) hx) (fun ey => absurd (ex.symm.trans ey) (by decide)) (fun ey => absurd (ex.symm.trans ey) (by decide)) (fun ey => absurd (ex.symm.trans ey) (by decide)) (fun ey => absurd (ex.symm.trans ey) (by decide)) (fun ey => ?_) (fun ey => absurd (ex.symm.trans ey) (by decide)) (fun ey => absurd (ex.symm.trans ey) (by decide)) (fun ey => absurd (ex.symm.trans ey) (by decide))
      exact thr_i _ _ ⟨fun _ => ⟨fun c => absurd rfl c, fun _ => ⟨hv01, fun _ => fun i' e' => ⟨⟨k + 1, hnx i' e', hk1, hR, hTB, hM2, (hC _ _ _)⟩, hmu i' e'⟩, fun c => absurd (by rw [e3, updL_e]) c⟩⟩, fun c => absurd rfl c⟩
    · refine ⟨hv01, ?_⟩
      intro out3 e3
      refine ⟨hv1, ?_⟩
      refine s_mtold _ _ _ _ _ _ _ _ _ _ _ (fun hx => absurd (tno _ (by simp only [ex, true_or, or_true])) hx) (fun ey => absurd (ex.symm.trans ey) (by decide)) (fun ey => absurd (ex.symm.trans ey) (by decide)) (fun ey => absurd (ex.symm.trans ey) (by decide)) (fun ey => absurd (ex.symm.trans ey) (by decide)) (fun ey => absurd (ex.symm.trans ey) (by decide)) (fun ey => ?_) (fun ey => absurd (ex.symm.trans ey) (by decide)) (fun ey => absurd (ex.symm.trans ey) (by decide))
      exact thr_i _ _ ⟨fun _ => ⟨fun c => absurd rfl c, fun _ => ⟨hv01, fun _ => fun i' e' => ⟨⟨k + 1, hnx i' e', hk1, hR, hTB, hM2, (hC _ _ _)⟩, hmu i' e'⟩, fun c => absurd (by rw [e3, updL_e]) c⟩⟩, fun c => absurd rfl c⟩
    · refine ⟨hv01, ?_⟩
      intro out3 e3
      refine ⟨hv1, ?_⟩
      refine s_mtold _ _ _ _ _ _ _ _ _ _ _ (fun hx => absurd (tno _ (by simp only [ex, true_or, or_true])) hx) (fun ey => absurd (ex.symm.trans ey) (by decide)) (fun ey => absurd (ex.symm.trans ey) (by decide)) (fun ey => absurd (ex.symm.trans ey) (by decide)) (fun ey => absurd (ex.symm.trans ey) (by decide)) (fun ey => absurd (ex.symm.trans ey) (by decide)) (fun ey => absurd (ex.symm.trans ey) (by decide)) (fun ey => ?_) (fun ey => absurd (ex.symm.trans ey) (by decide))
      exact thr_i _ _ ⟨fun _ => ⟨fun c => absurd rfl c, fun _ => ⟨hv01, fun _ => fun i' e' => ⟨⟨k + 1, hnx i' e', hk1, hR, hTB, hM2, (hC _ _ _)⟩, hmu i' e'⟩, fun c => absurd (by rw [e3, updL_e]) c⟩⟩, fun c => absurd rfl c⟩
    · refine ⟨hv01, ?_⟩
      intro out3 e3
      refine ⟨hv1, ?_⟩
      refine s_mtold _ _ _ _ _ _ _ _ _ _ _ (fun hx => absurd (tno _ (by simp only [ex, true_or, or_true])) hx) (fun ey => absurd (ex.symm.trans ey) (by decide)) (fun ey => absurd (ex.symm.trans ey) (by decide)) (fun ey => absurd (ex.symm.trans ey) (by decide)) (fun ey => absurd (ex.symm.trans ey) (by decide)) (fun ey => absurd (ex.symm.trans ey) (by decide)) (fun ey => absurd (ex.symm.trans ey) (by decide)) (fun ey => absurd (ex.symm.trans ey) (by decide)) (fun ey => ?_)
      exact thr_i _ _ ⟨fun _ => ⟨fun c => absurd rfl c, fun _ => ⟨hv01, fun _ => fun i' e' => ⟨⟨k + 1, hnx i' e', hk1, hR, hTB, hM2, (hC _ _ _)⟩, hmu i' e'⟩, fun c => absurd (by rw [e3, updL_e]) c⟩⟩, fun c => absurd rfl c⟩
  · exact fun i' e' => ⟨⟨k + 1, hnx i' e', hk1, hR, hTB, hM2, (hC _ _ _)⟩, hmu i' e'⟩
