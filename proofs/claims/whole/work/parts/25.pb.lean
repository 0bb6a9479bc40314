theorem s_gcd (p0 p1 : Int32) (a b : Nat) (Q : Int32 → Prop) (h0 : p0.toInt = a) (h1 : p1.toInt = b) (hQ : ∀ r : Int32, r.toInt = (Nat.gcd a b : Nat) → Q r) : w_X0_commonDivisor p0 p1 Q := by
  have r0 := q_r4 p0
  have r1 := q_r4 p1
  unfold w_X0_commonDivisor
  refine ⟨fun i y x => ∃ s u w : Nat, s ≤ 64 ∧ i.toInt = s ∧ y.toInt = w ∧ x.toInt = u ∧ Nat.gcd u w = Nat.gcd a b ∧ (s = 0 ∧ u = a ∧ w = b ∨ (w < u ∧ u * w * 2 ^ s ≤ 2 ^ 63)),
    fun i _ _ => (64 - i.toInt).toNat, ⟨0, a, b, by omega, by decide, h1, h0, rfl, Or.inl ⟨rfl, rfl, rfl⟩⟩, ?_⟩
  rintro i y x ⟨s, u, w, hs, hi, hy, hx, hg, hc⟩
  have fin : w = 0 → Q x := by
    rintro rfl
    rw [Nat.gcd_zero_right] at hg
    exact hQ x (by rw [hx, hg])
  refine ⟨fun c => ?_, fun c => ⟨fun c2 => ?_, fun c2 => ?_⟩⟩
  · rw [q_le4, z4_64, hi] at c
    apply fin
    have : s = 64 := by omega
    subst this
    rcases hc with hc | hc
    · omega
    · apply Nat.eq_zero_of_not_pos
      intro hw
      have := Nat.mul_le_mul (show 1 ≤ u by omega) (show 1 ≤ w by omega)
      have := Nat.mul_le_mul_right (2 ^ 64) this
      omega
  · rw [q_le4, z4_0, hy] at c2
    exact fin (by omega)
  · rw [q_le4, z4_0, hy] at c2
    rw [q_le4, z4_64, hi] at c
    refine ⟨by rw [q_eq4, hy, z4_0]; omega, ?_⟩
    intro v ev i6 e6
    subst e6
    have evv : v.toInt = ((u % w : Nat) : Int) := by
      rw [ev, v_rem4 hx hy (by omega) (by omega)]; rfl
    refine ⟨⟨s + 1, w, u % w, by omega, q_inc i s hi (by omega), evv, hy, ?_, Or.inr ⟨Nat.mod_lt _ (by omega), ?_⟩⟩, ?_⟩
    · rw [← hg, Nat.gcd_comm u w, Nat.gcd_rec w u, Nat.gcd_comm]
    · rcases hc with ⟨rfl, rfl, rfl⟩ | ⟨hwu, hb⟩
      · have hm := Nat.mod_le u w
        have h1 := Nat.mul_le_mul (show w ≤ 2 ^ 31 by omega) (show u % w ≤ 2 ^ 31 by omega)
        omega
      · have hdm := Nat.mod_add_div u w
        have hlt := Nat.mod_lt u (show w > 0 by omega)
        have hq : 1 ≤ u / w := Nat.div_pos (Nat.le_of_lt hwu) (by omega)
        have hq2 := Nat.mul_le_mul_left w hq
        have h2 : 2 * (u % w) ≤ u := by omega
        have h3 := Nat.mul_le_mul_left w h2
        have h4 := Nat.mul_le_mul_right (2 ^ s) h3
        have e5 : w * (u % w) * 2 ^ (s + 1) = w * (2 * (u % w)) * 2 ^ s := by
          rw [Nat.pow_succ]; simp only [Nat.mul_assoc, Nat.mul_comm, Nat.mul_left_comm]
        rw [e5]
        rw [Nat.mul_comm w u] at h4
        exact Nat.le_trans h4 hb
    · show (64 - (i + 1).toInt).toNat < (64 - i.toInt).toNat
      rw [q_inc i s hi (by omega), hi]; omega
theorem s_quot (p0 p1 : Int32) (a b : Nat) (Q : Int32 → Prop) (h0 : p0.toInt = a) (h1 : p1.toInt = b) (hb : 0 < b) (hQ : ∀ r : Int32, r.toInt = (a / b : Nat) → Q r) : w_X0_quotient p0 p1 Q := by
  unfold w_X0_quotient
  refine ⟨fun _ => ⟨by rw [q_eq4, h1, z4_0]; omega, ?_⟩, fun c => absurd (by rw [q_le4, z4_1, h1]; omega) c⟩
  intro v ev
  exact hQ v (by rw [ev, v_div4 h0 h1 (by omega) (by omega)]; rfl)
def fA (lu : Nat → Int32) (nu : Int32) (ld : Nat → Int32) (nd : Int32) (N D : Nat) : Prop := rN lu nu (N : Int) ∧ rN ld nd (D : Int)
theorem s_fbecome (lu : Nat → Int32) (nu : Int32) (ld : Nat → Int32) (nd : Int32) (p0 p1 : Int32) (a b : Nat) (Q : (Nat → Int32) → Int32 → (Nat → Int32) → Int32 → Prop)
    (h0 : p0.toInt = a) (h1 : p1.toInt = b) (hb : 0 < b)
    (hQ : ∀ lu' nu' ld' nd', fA lu' nu' ld' nd' (a / Nat.gcd a b) (b / Nat.gcd a b) → Q lu' nu' ld' nd') : w_X0_become lu nu ld nd p0 p1 Q := by
  unfold w_X0_become
  have hg : 0 < Nat.gcd a b := Nat.gcd_pos_of_pos_right a hb
  refine s_gcd p0 p1 a b _ h0 h1 ?_
  intro r hr
  refine s_become lu nu p0 a _ h0 (by omega) ?_
  intro l1 n1 h
  refine s_divideBy l1 n1 r a _ _ h hr (by omega) ?_
  intro l2 n2 h2
  refine s_become ld nd p1 b _ h1 (by omega) ?_
  intro l3 n3 h3
  refine s_divideBy l3 n3 r b _ _ h3 hr (by omega) ?_
  intro l4 n4 h4
  exact hQ _ _ _ _ ⟨h2, h4⟩
theorem cop_i (x y : Nat) (h : ∀ d : Nat, d ∣ x → d ∣ y → d = 1) : Nat.gcd x y = 1 := h _ (Nat.gcd_dvd_left x y) (Nat.gcd_dvd_right x y)
theorem cop_e (x y d : Nat) (h : Nat.gcd x y = 1) (h1 : d ∣ x) (h2 : d ∣ y) : d = 1 := by
  have := Nat.dvd_gcd h1 h2; rw [h] at this; exact Nat.dvd_one.mp this
theorem cop_l (x y d : Nat) (h : Nat.gcd x y = 1) (h1 : d ∣ x) : Nat.gcd d y = 1 :=
  cop_i _ _ (fun e h2 h3 => cop_e x y e h (Nat.dvd_trans h2 h1) h3)
theorem cop_div (x y : Nat) (h : 0 < Nat.gcd x y) : Nat.gcd (x / Nat.gcd x y) (y / Nat.gcd x y) = 1 := by
  rw [Nat.gcd_div (Nat.gcd_dvd_left x y) (Nat.gcd_dvd_right x y), Nat.div_self h]
theorem cop_mul (x y z : Nat) (h : Nat.gcd x y = 1) (h2 : Nat.gcd x z = 1) : Nat.gcd x (y * z) = 1 := by
  have : Nat.Coprime x y := h
  exact Nat.Coprime.mul_right this h2
theorem low_uniq (N D N' D' : Nat) (h : Nat.gcd N D = 1) (h' : Nat.gcd N' D' = 1) (hD : 0 < D) (e : N * D' = N' * D) : N = N' ∧ D = D' := by
  have c : Nat.Coprime D N := by rw [Nat.Coprime, Nat.gcd_comm]; exact h
  have c' : Nat.Coprime D' N' := by rw [Nat.Coprime, Nat.gcd_comm]; exact h'
  have d1 : D ∣ D' := c.dvd_of_dvd_mul_left ⟨N', by rw [e, Nat.mul_comm]⟩
  have d2 : D' ∣ D := c'.dvd_of_dvd_mul_left ⟨N, by rw [← e, Nat.mul_comm]⟩
  have : D = D' := Nat.dvd_antisymm d1 d2
  subst this
  exact ⟨Nat.eq_of_mul_eq_mul_right hD e, rfl⟩
theorem knuth (N D1 g b1 a T : Nat) (hg : 0 < g) (h1 : Nat.gcd N (D1 * g) = 1) (h2 : Nat.gcd a (b1 * g) = 1) (h3 : Nat.gcd D1 b1 = 1)
    (hT : T = N * b1 + a * D1 ∨ T + a * D1 = N * b1) : Nat.gcd (T / Nat.gcd T g) (D1 * (b1 * (g / Nat.gcd T g))) = 1 := by
  have hh : 0 < Nat.gcd T g := Nat.gcd_pos_of_pos_right T hg
  have c1 : Nat.gcd T D1 = 1 := by
    apply cop_i; intro d hd hd1
    have e1 : d ∣ N * b1 := by
      rcases hT with e | e
      · exact (Nat.dvd_add_left (Nat.dvd_trans hd1 (Nat.dvd_mul_left _ _))).mp (e ▸ hd)
      · rw [← e]; exact Nat.dvd_add hd (Nat.dvd_trans hd1 (Nat.dvd_mul_left _ _))
    have cb : Nat.Coprime d b1 := cop_l _ _ _ h3 hd1
    exact cop_e N (D1 * g) d h1 (cb.dvd_of_dvd_mul_right e1) (Nat.dvd_trans hd1 (Nat.dvd_mul_right _ _))
  have c2 : Nat.gcd T b1 = 1 := by
    apply cop_i; intro d hd hd1
    have e1 : d ∣ a * D1 := by
      rcases hT with e | e
      · exact (Nat.dvd_add_right (Nat.dvd_trans hd1 (Nat.dvd_mul_left _ _))).mp (e ▸ hd)
      · exact (Nat.dvd_add_right hd).mp (by rw [e]; exact Nat.dvd_trans hd1 (Nat.dvd_mul_left _ _))
    have cb : Nat.Coprime d D1 := cop_l _ _ _ (by rw [Nat.gcd_comm]; exact h3) hd1
    exact cop_e a (b1 * g) d h2 (cb.dvd_of_dvd_mul_right e1) (Nat.dvd_trans hd1 (Nat.dvd_mul_right _ _))
  have t1 : T / Nat.gcd T g ∣ T := Nat.div_dvd_of_dvd (Nat.gcd_dvd_left T g)
  exact cop_mul _ _ _ (cop_l _ _ _ c1 t1) (cop_mul _ _ _ (cop_l _ _ _ c2 t1) (cop_div T g hh))
theorem dvd_cast (a b : Nat) : ((a : Int) / (b : Int)) = ((a / b : Nat) : Int) := rfl
theorem mod_cast' (a b : Nat) : ((a : Int) % (b : Int)) = ((a % b : Nat) : Int) := rfl
theorem pw_lt (a b c : Nat) (h : c ≤ 40) (x : Nat) (hx : (x : Int) < 2147483648 ^ 40) (y : Int) (hy : y ≤ x * 2147483648) : y < 2147483648 ^ 64 := by
  have e1 : (2147483648 : Int) ^ 41 = 2147483648 ^ 40 * 2147483648 := Int.pow_succ _ 40
  have e2 : (2147483648 : Int) ^ 41 ≤ 2147483648 ^ 64 := dP_mono _ (by decide) 41 64 (by omega)
  omega
theorem s_change (lu : Nat → Int32) (nu : Int32) (ld : Nat → Int32) (nd : Int32) (p0 p1 p2 : Int32) (N D a0 b0 : Nat) (s : Int) (Q : (Nat → Int32) → Int32 → (Nat → Int32) → Int32 → Prop)
    (h : fA lu nu ld nd N D) (hc : Nat.gcd N D = 1) (hD : 0 < D) (hN40 : (N : Int) < 2147483648 ^ 40) (hD40 : (D : Int) < 2147483648 ^ 40)
    (h0 : p0.toInt = a0) (h1 : p1.toInt = b0) (hb : 0 < b0) (hb2 : b0 ≤ 1000) (h2 : p2.toInt = s) (hs : s = 1 ∨ s = -1 ∧ a0 * D ≤ N * b0)
    (hQ : ∀ lu' nu' ld' nd' N' D', fA lu' nu' ld' nd' N' D' → Nat.gcd N' D' = 1 → 0 < D' → D' ∣ D * b0 → (N' : Int) * (D * b0) = (N * b0 + s * a0 * D) * D' → Q lu' nu' ld' nd') :
    w_X0_change lu nu ld nd p0 p1 p2 Q := by
  obtain ⟨hu, hd⟩ := h
  have hr0 := q_r4 p0
  unfold w_X0_change
  have hg1 : 0 < Nat.gcd a0 b0 := Nat.gcd_pos_of_pos_right a0 hb
  refine s_gcd p0 p1 a0 b0 _ h0 h1 ?_
  intro r1 e1
  refine s_quot p0 r1 a0 _ _ h0 e1 hg1 ?_
  intro r2 e2
  refine s_quot p1 r1 b0 _ _ h1 e1 hg1 ?_
  intro r3 e3
  have cab : Nat.gcd (a0 / Nat.gcd a0 b0) (b0 / Nat.gcd a0 b0) = 1 := cop_div a0 b0 hg1
  have ea : Nat.gcd a0 b0 * (a0 / Nat.gcd a0 b0) = a0 := Nat.mul_div_cancel' (Nat.gcd_dvd_left a0 b0)
  have eb : Nat.gcd a0 b0 * (b0 / Nat.gcd a0 b0) = b0 := Nat.mul_div_cancel' (Nat.gcd_dvd_right a0 b0)
  have bpos : 0 < b0 / Nat.gcd a0 b0 := Nat.div_pos (Nat.le_of_dvd hb (Nat.gcd_dvd_right a0 b0)) hg1
  have ble : b0 / Nat.gcd a0 b0 ≤ b0 := Nat.div_le_self _ _
  have ale : a0 / Nat.gcd a0 b0 ≤ a0 := Nat.div_le_self _ _
  generalize a0 / Nat.gcd a0 b0 = a at *
  generalize b0 / Nat.gcd a0 b0 = b at *
  generalize Nat.gcd a0 b0 = g1 at *
  refine s_restBy ld nd r3 D b _ hd e3 (by omega) ?_
  intro r4 e4
  rw [mod_cast'] at e4
  refine s_gcd r4 r3 (D % b) b _ e4 e3 ?_
  intro r5 e5
  have eg : Nat.gcd (D % b) b = Nat.gcd D b := by rw [Nat.gcd_comm D b, Nat.gcd_rec b D]
  rw [eg] at e5
  have hg : 0 < Nat.gcd D b := Nat.gcd_pos_of_pos_right D bpos
  have gb : Nat.gcd D b ≤ b := Nat.le_of_dvd bpos (Nat.gcd_dvd_right D b)
  refine s_divideBy ld nd r5 D _ _ hd e5 (by omega) ?_
  intro ld6 nd7 h6
  rw [dvd_cast] at h6
  refine s_quot r3 r5 b _ _ e3 e5 hg ?_
  intro r8 e8
  have cDb : Nat.gcd (D / Nat.gcd D b) (b / Nat.gcd D b) = 1 := cop_div D b hg
  have eD : Nat.gcd D b * (D / Nat.gcd D b) = D := Nat.mul_div_cancel' (Nat.gcd_dvd_left D b)
  have eB : Nat.gcd D b * (b / Nat.gcd D b) = b := Nat.mul_div_cancel' (Nat.gcd_dvd_right D b)
  have b1le : b / Nat.gcd D b ≤ b := Nat.div_le_self _ _
  have D1le : D / Nat.gcd D b ≤ D := Nat.div_le_self _ _
  have b1pos : 0 < b / Nat.gcd D b := Nat.div_pos gb hg
  have D1pos : 0 < D / Nat.gcd D b := Nat.div_pos (Nat.le_of_dvd hD (Nat.gcd_dvd_left D b)) hg
  generalize D / Nat.gcd D b = D1 at *
  generalize b / Nat.gcd D b = b1 at *
  generalize Nat.gcd D b = g at *
  have nb1 : ((N * b1 : Nat) : Int) ≤ N * 2147483648 := by
    have := Nat.mul_le_mul_left N (show b1 ≤ 2147483648 by omega)
    omega
  refine s_times lu nu r8 N b1 _ hu e8 (by omega) (pw_lt 0 0 0 (by omega) N hN40 _ (by rw [Int.natCast_mul] at nb1; exact nb1)) ?_
  intro lu9 nu10 h9
  have ess : s = 1 ∨ s = -1 := by rcases hs with e | e <;> simp [e]
  have e2s : (p2 * r2).toInt = s * a := by
    rw [v_mul4 h2 e2] <;> (rcases ess with e | e <;> subst e <;> omega)
  have hT : ∃ T : Nat, (N : Int) * b1 + D1 * (s * a) = T ∧ (T = N * b1 + a * D1 ∨ T + a * D1 = N * b1) := by
    rcases hs with e | ⟨e, hle⟩
    · subst e
      refine ⟨N * b1 + a * D1, ?_, Or.inl rfl⟩
      push_cast; rw [Int.one_mul, Int.mul_comm (D1 : Int)]
    · subst e
      have hle2 : a * D1 ≤ N * b1 := by
        refine Nat.le_of_mul_le_mul_left (c := g1 * g) ?_ (Nat.mul_pos hg1 hg)
        have x1 : a0 * D = g1 * g * (a * D1) := by rw [← ea, ← eD]; simp only [Nat.mul_assoc, Nat.mul_comm, Nat.mul_left_comm]
        have x2 : N * b0 = g1 * g * (N * b1) := by rw [← eb, ← eB]; simp only [Nat.mul_assoc, Nat.mul_comm, Nat.mul_left_comm]
        rw [← x1, ← x2]; exact hle
      refine ⟨N * b1 - a * D1, ?_, Or.inr (by omega)⟩
      have x3 : (D1 : Int) * (-1 * a) = -((a * D1 : Nat) : Int) := by push_cast; rw [Int.mul_comm (a : Int)]; simp [Int.mul_neg]
      have x4 : (N : Int) * b1 = ((N * b1 : Nat) : Int) := by push_cast; rfl
      rw [x3, x4]; omega
  obtain ⟨T, eT, eT2⟩ := hT
  have aD1 : ((a * D1 : Nat) : Int) ≤ D * 2147483648 := by
    have x1 := Nat.mul_le_mul (show a ≤ 2147483648 by omega) D1le
    rw [Nat.mul_comm 2147483648] at x1; omega
  have Tb : (T : Int) < 2147483648 ^ 64 := by
    have x5 : (2147483648 : Int) ^ 42 = 2147483648 ^ 40 * 2147483648 * 2147483648 := by rw [Int.pow_succ, Int.pow_succ]
    have x6 : (2147483648 : Int) ^ 42 ≤ 2147483648 ^ 64 := dP_mono _ (by decide) 42 64 (by omega)
    have x7 : T ≤ N * b1 + a * D1 := by omega
    omega
  refine s_plusTimes lu9 nu10 ld6 nd7 _ _ D1 (s * a) _ h9 h6 e2s (by rw [eT]; omega) (by rw [eT]; exact Tb) ?_
  intro lu11 nu12 h11
  rw [eT] at h11
  refine s_restBy lu11 nu12 r5 T g _ h11 e5 (by omega) ?_
  intro r13 e13
  rw [mod_cast'] at e13
  refine s_gcd r13 r5 (T % g) g _ e13 e5 ?_
  intro r14 e14
  have eh : Nat.gcd (T % g) g = Nat.gcd T g := by rw [Nat.gcd_comm T g, Nat.gcd_rec g T]
  rw [eh] at e14
  have hh : 0 < Nat.gcd T g := Nat.gcd_pos_of_pos_right T hg
  refine s_divideBy lu11 nu12 r14 T _ _ h11 e14 (by omega) ?_
  intro lu15 nu16 h15
  rw [dvd_cast] at h15
  refine s_quot r3 r14 b _ _ e3 e14 hh ?_
  intro r17 e17
  have ebh : b / Nat.gcd T g = b1 * (g / Nat.gcd T g) := by
    rw [← eB, Nat.mul_comm g b1]; exact Nat.mul_div_assoc b1 (Nat.gcd_dvd_right T g)
  have kn := knuth N D1 g b1 a T hg (by rw [Nat.mul_comm, eD]; exact hc) (by rw [Nat.mul_comm, eB]; exact cab) cDb eT2
  have egh : Nat.gcd T g * (g / Nat.gcd T g) = g := Nat.mul_div_cancel' (Nat.gcd_dvd_right T g)
  have eTh : Nat.gcd T g * (T / Nat.gcd T g) = T := Nat.mul_div_cancel' (Nat.gcd_dvd_left T g)
  have ghpos : 0 < g / Nat.gcd T g := Nat.div_pos (Nat.le_of_dvd hg (Nat.gcd_dvd_right T g)) hh
  have bhle : b / Nat.gcd T g ≤ b := Nat.div_le_self _ _
  have d1b : ((D1 * (b / Nat.gcd T g) : Nat) : Int) ≤ D * 2147483648 := by
    have x1 := Nat.mul_le_mul D1le (show b / Nat.gcd T g ≤ 2147483648 by omega)
    omega
  refine s_times ld6 nd7 r17 D1 _ _ h6 e17 (by omega) (pw_lt 0 0 0 (by omega) D hD40 _ (by rw [Int.natCast_mul] at d1b; exact d1b)) ?_
  intro ld18 nd19 h18
  rw [← Int.natCast_mul, ebh] at h18
  generalize g / Nat.gcd T g = γ at *
  generalize T / Nat.gcd T g = t at *
  generalize Nat.gcd T g = hq at *
  refine hQ _ _ _ _ t (D1 * (b1 * γ)) ⟨h15, h18⟩ kn (Nat.mul_pos D1pos (Nat.mul_pos b1pos ghpos)) ?_ ?_
  · refine ⟨g * (g1 * hq), ?_⟩
    rw [← eb, ← eB, ← eD, ← egh]
    simp only [Nat.mul_assoc, Nat.mul_comm, Nat.mul_left_comm]
  · have y1 : (N : Int) * b0 + s * a0 * D = g1 * g * T := by
      rw [← eT, ← eb, ← eB, ← ea, ← eD]; push_cast; grind
    rw [y1, ← eb, ← eB, ← eD, ← eTh, ← egh]; push_cast; grind
def xD (q : Nat) : Nat → Nat
  | 0 => 1
  | n + 1 => xD q n * (q * (n + 1))
def xS (p q : Nat) : Nat → Nat
  | 0 => 1
  | n + 1 => xS p q n * (q * (n + 1)) + p ^ (n + 1)
def xR (a b p q n : Nat) : Prop := b * xD q n ≤ a * xS p q n
def rT (p q : Nat) : Nat → Nat
  | 0 => 340282366920938463463374607431768211456
  | n + 1 => rT p q n * p / (q * (n + 1))
def rW (p q : Nat) : Nat → Nat
  | 0 => 0
  | n + 1 => rW p q n + rT p q n
theorem xR_s (a b p q n : Nat) (h : xR a b p q n) : xR a b p q (n + 1) := by
  unfold xR at *
  have := Nat.mul_le_mul_right (q * (n + 1)) h
  simp only [xD, xS]
  generalize q * (n + 1) = E at *
  rw [← Nat.mul_assoc, Nat.mul_add, ← Nat.mul_assoc]
  omega
theorem xR_m (a b p q n m : Nat) (hnm : n ≤ m) (h : xR a b p q n) : xR a b p q m := by
  induction m with
  | zero => have : n = 0 := by omega
            subst this; exact h
  | succ k ih =>
    by_cases c : n = k + 1
    · subst c; exact h
    · exact xR_s a b p q k (ih (by omega))
theorem xR_early (a b p q n m : Nat) (hq : 0 < q) (hnm : n ≤ m) (h1 : a * xS p q n < b * xD q n) (h2 : a * xS p q n + a * p ^ n ≤ b * xD q n) (h3 : 2 * p ≤ (n + 1) * q) :
    a * xS p q m < b * xD q m ∧ a * xS p q m + a * p ^ m ≤ b * xD q m := by
  induction m with
  | zero => have : n = 0 := by omega
            subst this; exact ⟨h1, h2⟩
  | succ k ih =>
    by_cases c : n = k + 1
    · subst c; exact ⟨h1, h2⟩
    · obtain ⟨i1, i2⟩ := ih (by omega)
      have h4 : 2 * p ≤ q * (k + 1) := by
        have := Nat.mul_le_mul_right q (show n + 1 ≤ k + 1 by omega)
        rw [Nat.mul_comm q]; omega
      have hE0 : 0 < q * (k + 1) := Nat.mul_pos hq (by omega)
      generalize hE : q * (k + 1) = E at *
      simp only [xD, xS, hE]
      obtain ⟨y, hy⟩ : ∃ y, b * xD q k = a * xS p q k + y := ⟨b * xD q k - a * xS p q k, by omega⟩
      have y0 : 0 < y := by omega
      have y1 : a * p ^ k ≤ y := by omega
      have e1 : b * (xD q k * E) = a * xS p q k * E + y * E := by rw [← Nat.mul_assoc, hy, Nat.add_mul]
      have e2 : a * (xS p q k * E + p ^ (k + 1)) = a * xS p q k * E + a * p ^ k * p := by
        rw [Nat.mul_add, ← Nat.mul_assoc, Nat.pow_succ, ← Nat.mul_assoc]
      have e3 : a * p ^ (k + 1) = a * p ^ k * p := by rw [Nat.pow_succ, Nat.mul_assoc]
      have l1 : a * p ^ k * p ≤ y * p := Nat.mul_le_mul_right p y1
      have l2 : y * (2 * p) ≤ y * E := Nat.mul_le_mul_left y h4
      have e4 : y * (2 * p) = y * p + y * p := by rw [Nat.two_mul, Nat.mul_add]
      rw [e1, e2, e3]
      refine ⟨?_, by omega⟩
      by_cases cp : p = 0
      · subst cp
        have := Nat.mul_pos y0 hE0
        omega
      · have := Nat.mul_pos y0 (show 0 < p by omega)
        omega
theorem xD_pos (q n : Nat) (hq : 0 < q) : 0 < xD q n := by
  induction n with
  | zero => exact Nat.one_pos
  | succ k ih => simp only [xD]; exact Nat.mul_pos ih (Nat.mul_pos hq (by omega))
theorem xF (q n : Nat) : xD q n = q ^ n * xD 1 n := by
  induction n with
  | zero => rfl
  | succ k ih => simp only [xD, ih, Nat.pow_succ, Nat.one_mul]; simp only [Nat.mul_assoc, Nat.mul_comm, Nat.mul_left_comm]
theorem xS_mono (p q p' q' n : Nat) (h : p * q' ≤ p' * q) : xS p q n * xD q' n ≤ xS p' q' n * xD q n := by
  induction n with
  | zero => exact Nat.le_refl _
  | succ k ih =>
    simp only [xS]
    rw [Nat.add_mul, Nat.add_mul]
    refine Nat.add_le_add ?_ ?_
    · have := Nat.mul_le_mul_right (q * (k + 1) * (q' * (k + 1))) ih
      simp only [xD]
      have e1 : xS p q k * (q * (k + 1)) * (xD q' k * (q' * (k + 1))) = xS p q k * xD q' k * (q * (k + 1) * (q' * (k + 1))) := by
        ac_rfl
      have e2 : xS p' q' k * (q' * (k + 1)) * (xD q k * (q * (k + 1))) = xS p' q' k * xD q k * (q * (k + 1) * (q' * (k + 1))) := by
        ac_rfl
      rw [e1, e2]; exact this
    · rw [xF q', xF q, ← Nat.mul_assoc, ← Nat.mul_assoc, ← Nat.mul_pow, ← Nat.mul_pow]
      exact Nat.mul_le_mul_right _ (Nat.pow_le_pow_left h _)
theorem xR_mono (a b p q p' q' n : Nat) (hq : 0 < q) (h : p * q' ≤ p' * q) (hr : xR a b p q n) : xR a b p' q' n := by
  unfold xR at *
  have h1 := xS_mono p q p' q' n h
  have h2 := Nat.mul_le_mul_right (xD q' n) hr
  have h3 := Nat.mul_le_mul_left a h1
  have e1 : b * xD q n * xD q' n = b * xD q' n * xD q n := by ac_rfl
  have e2 : a * xS p q n * xD q' n = a * (xS p q n * xD q' n) := Nat.mul_assoc _ _ _
  have e3 : a * (xS p' q' n * xD q n) = a * xS p' q' n * xD q n := (Nat.mul_assoc _ _ _).symm
  exact Nat.le_of_mul_le_mul_right (c := xD q n) (by omega) (xD_pos q n hq)
theorem rT_mono (p q p' q' n : Nat) (hq : 0 < q) (hq' : 0 < q') (h : p * q' ≤ p' * q) : rT p q n ≤ rT p' q' n := by
  induction n with
  | zero => exact Nat.le_refl _
  | succ k ih =>
    simp only [rT]
    rw [Nat.le_div_iff_mul_le (Nat.mul_pos hq' (by omega))]
    refine Nat.le_of_mul_le_mul_right (c := q) ?_ hq
    have h1 := Nat.div_mul_le_self (rT p q k * p) (q * (k + 1))
    have h2 := Nat.mul_le_mul_right q' h1
    have e1 : rT p q k * p / (q * (k + 1)) * (q' * (k + 1)) * q = rT p q k * p / (q * (k + 1)) * (q * (k + 1)) * q' := by
      ac_rfl
    have h3 : rT p q k * p * q' ≤ rT p' q' k * p' * q := by
      rw [Nat.mul_assoc, Nat.mul_assoc]; exact Nat.mul_le_mul ih h
    rw [e1]; exact Nat.le_trans h2 h3
theorem rW_mono (p q p' q' n : Nat) (hq : 0 < q) (hq' : 0 < q') (h : p * q' ≤ p' * q) : rW p q n ≤ rW p' q' n := by
  induction n with
  | zero => exact Nat.le_refl _
  | succ k ih => simp only [rW]; exact Nat.add_le_add ih (rT_mono p q p' q' k hq hq' h)
theorem rT_up (p q n : Nat) : rT p q n * xD q n ≤ 340282366920938463463374607431768211456 * p ^ n := by
  induction n with
  | zero => exact Nat.le_refl _
  | succ k ih =>
    simp only [rT, xD]
    have h1 := Nat.div_mul_le_self (rT p q k * p) (q * (k + 1))
    have h2 := Nat.mul_le_mul_right (xD q k) h1
    have h3 := Nat.mul_le_mul_right p ih
    rw [Nat.pow_succ]
    have e3 : 340282366920938463463374607431768211456 * (p ^ k * p) = 340282366920938463463374607431768211456 * p ^ k * p := (Nat.mul_assoc _ _ _).symm
    have e1 : rT p q k * p / (q * (k + 1)) * (xD q k * (q * (k + 1))) = rT p q k * p / (q * (k + 1)) * (q * (k + 1)) * xD q k := by
      ac_rfl
    have e2 : rT p q k * p * xD q k = rT p q k * xD q k * p := by ac_rfl
    rw [e1, e3]
    rw [e2] at h2; exact Nat.le_trans h2 h3
theorem rW_up (p q n : Nat) : rW p q (n + 1) * xD q n ≤ 340282366920938463463374607431768211456 * xS p q n := by
  induction n with
  | zero => show (0 + 340282366920938463463374607431768211456) * 1 ≤ 340282366920938463463374607431768211456 * 1; decide
  | succ k ih =>
    have h1 := rT_up p q (k + 1)
    have h2 := Nat.mul_le_mul_right (q * (k + 1)) ih
    have e0 : rW p q (k + 1 + 1) = rW p q (k + 1) + rT p q (k + 1) := rfl
    rw [e0, Nat.add_mul]
    simp only [xD, xS] at h1 ⊢
    have h2' : rW p q (k + 1) * (xD q k * (q * (k + 1))) ≤ 340282366920938463463374607431768211456 * (xS p q k * (q * (k + 1))) := by
      rw [← Nat.mul_assoc (rW p q (k + 1)), ← Nat.mul_assoc 340282366920938463463374607431768211456]; exact h2
    rw [Nat.mul_add 340282366920938463463374607431768211456]
    exact Nat.add_le_add h2' h1
theorem rT_60 (p q n : Nat) (hq : 0 < q) (h : p < 3 * q) (hn : 60 ≤ n) : rT p q n = 0 := by
  have h0 : rT 3 1 60 = 0 := by decide +kernel
  have h1 := rT_mono p q 3 1 60 hq (by omega) (by omega)
  obtain ⟨d, rfl⟩ := Nat.exists_eq_add_of_le hn
  induction d with
  | zero => simp only [Nat.add_zero]; omega
  | succ k ih =>
    have := ih (by omega)
    rw [← Nat.add_assoc]; simp only [rT, this, Nat.zero_mul, Nat.zero_div]
theorem rW_60 (p q n : Nat) (hq : 0 < q) (h : p < 3 * q) (hn : 60 ≤ n) : rW p q n = rW p q 60 := by
  obtain ⟨d, rfl⟩ := Nat.exists_eq_add_of_le hn
  induction d with
  | zero => rfl
  | succ k ih => rw [← Nat.add_assoc]; simp only [rW, ih (by omega), rT_60 p q (60 + k) hq h (by omega), Nat.add_zero]
theorem rT_le (p q n : Nat) (hq : 0 < q) (h : p < 3 * q) : rT p q n ≤ 2 ^ 131 := by
  by_cases c : n < 60
  · have h1 := rT_mono p q 3 1 n hq (by omega) (by omega)
    have : ∀ m : Fin 60, rT 3 1 m.val ≤ 2 ^ 131 := by decide +kernel
    exact Nat.le_trans h1 (this ⟨n, c⟩)
  · rw [rT_60 p q n hq h (by omega)]; exact Nat.zero_le _
theorem rW_le (p q n : Nat) (hq : 0 < q) (h : p < 3 * q) : rW p q n ≤ 2 ^ 133 := by
  have hle : ∀ m k : Nat, rW p q m ≤ rW p q (m + k) := by
    intro m k
    induction k with
    | zero => exact Nat.le_refl _
    | succ j ih => rw [← Nat.add_assoc]; simp only [rW]; omega
  have h1 : rW p q n ≤ rW p q (60 + n) := by rw [Nat.add_comm]; exact hle n 60
  rw [rW_60 p q (60 + n) hq h (by omega)] at h1
  have h2 := rW_mono p q 3 1 60 hq (by omega) (by omega)
  have h3 : rW 3 1 60 ≤ 2 ^ 133 := by decide +kernel
  omega
def far : Nat → Nat → Nat × Nat × Nat × Nat
  | 1, 2 => (445, 642, 253, 365)
  | 1, 3 => (791, 720, 713, 649)
  | 2, 3 => (371, 915, 178, 439)
  | 1, 4 => (445, 321, 951, 686)
  | 2, 4 => (445, 642, 253, 365)
  | 3, 4 => (21, 73, 271, 942)
  | 1, 5 => (1603, 996, 375, 233)
  | 2, 5 => (405, 442, 613, 669)
  | 3, 5 => (118, 231, 401, 785)
  | 4, 5 => (27, 121, 214, 959)
  | 1, 6 => (1609, 898, 783, 437)
  | 2, 6 => (791, 720, 713, 649)
  | 3, 6 => (445, 642, 253, 365)
  | 4, 6 => (371, 915, 178, 439)
  | 5, 6 => (33, 181, 163, 894)
  | 1, 7 => (1403, 721, 1475, 758)
  | 2, 7 => (907, 724, 793, 633)
  | 3, 7 => (627, 740, 455, 537)
  | 4, 7 => (291, 520, 352, 629)
  | 5, 7 => (143, 425, 250, 743)
  | 6, 7 => (39, 253, 154, 999)
  | 1, 8 => (445, 214, 1649, 793)
  | 2, 8 => (445, 321, 951, 686)
  | 3, 8 => (972, 991, 307, 313)
  | 4, 8 => (445, 642, 253, 365)
  | 5, 8 => (47, 100, 431, 917)
  | 6, 8 => (21, 73, 271, 942)
  | 7, 8 => (45, 337, 133, 996)
  | 1, 9 => (791, 360, 1426, 649)
  | 2, 9 => (1107, 736, 922, 613)
  | 3, 9 => (791, 720, 713, 649)
  | 4, 9 => (742, 915, 549, 677)
  | 5, 9 => (77, 131, 549, 934)
  | 6, 9 => (371, 915, 178, 439)
  | 7, 9 => (239, 951, 191, 760)
  | 8, 9 => (51, 433, 100, 849)
  | 1, 10 => (624, 271, 2047, 889)
  | 2, 10 => (1603, 996, 375, 233)
  | 3, 10 => (667, 554, 909, 755)
  | 4, 10 => (405, 442, 613, 669)
  | 5, 10 => (445, 642, 253, 365)
  | 6, 10 => (118, 231, 401, 785)
  | 7, 10 => (163, 457, 219, 614)
  | 8, 10 => (27, 121, 214, 959)
  | 9, 10 => (57, 541, 55, 522)
  | _, _ => (0, 0, 0, 0)
def farOK (a b : Nat) (t : Nat × Nat × Nat × Nat) : Bool :=
  Nat.ble (a * xS t.1 t.2.1 60 + 1) (b * xD t.2.1 60) && Nat.ble (b * 340282366920938463463374607431768211456) (a * rW t.2.2.1 t.2.2.2 60)
    && Nat.beq (t.2.2.1 * t.2.1) (t.1 * t.2.2.2 + 1) && Nat.ble 1001 (t.2.1 + t.2.2.2) && Nat.ble 1 t.2.1 && Nat.ble 1 t.2.2.2 && Nat.ble (t.2.2.1 + 1) (3 * t.2.2.2)
theorem far_ok : ∀ b : Fin 11, ∀ a : Fin 11, 1 ≤ a.val → a.val < b.val → farOK a.val b.val (far a.val b.val) = true := by decide +kernel
theorem far_split (p q p1 q1 p2 q2 : Nat) (hq : 0 < q) (hq2 : q ≤ 1000) (h1 : 0 < q1) (h2 : 0 < q2) (e : p2 * q1 = p1 * q2 + 1) (hs : 1001 ≤ q1 + q2) : p * q1 ≤ p1 * q ∨ p2 * q ≤ p * q2 := by
  apply Classical.byContradiction
  intro hc
  have c1 : p1 * q + 1 ≤ p * q1 := by omega
  have c2 : p * q2 + 1 ≤ p2 * q := by omega
  have m1 := Nat.mul_le_mul_right q2 c1
  have m2 := Nat.mul_le_mul_right q1 c2
  rw [Nat.add_mul] at m1 m2
  have x1 : p * q1 * q2 = p * q2 * q1 := by ac_rfl
  have x2 : p2 * q * q1 = p1 * q * q2 + q := by
    have : p2 * q * q1 = p2 * q1 * q := by ac_rfl
    have t : p1 * q2 * q = p1 * q * q2 := by ac_rfl
    rw [this, e, Nat.add_mul, Nat.one_mul, t]
  omega
theorem far_agree (a b p q : Nat) (ha : 1 ≤ a) (hab : a < b) (hb : b ≤ 10) (hq : 0 < q) (hq2 : q ≤ 1000) :
    xR a b p q 60 ↔ (3 * q ≤ p ∨ p < 3 * q ∧ b * 340282366920938463463374607431768211456 ≤ a * rW p q 60) := by
  have f := far_ok ⟨b, by omega⟩ ⟨a, by omega⟩ ha hab
  simp only at f
  generalize far a b = t at f
  obtain ⟨p1, q1, p2, q2⟩ := t
  simp only [farOK, Bool.and_eq_true, Nat.ble_eq] at f
  obtain ⟨⟨⟨⟨⟨⟨f1, f2⟩, f3⟩, f4⟩, f5⟩, f6⟩, f7⟩ := f
  have up : ∀ p q : Nat, b * 340282366920938463463374607431768211456 ≤ a * rW p q 60 → 0 < q → xR a b p q 60 := by
    intro p q h hq
    apply xR_s
    unfold xR
    have h1 := rW_up p q 59
    have h2 := Nat.mul_le_mul_right (xD q 59) h
    have h3 := Nat.mul_le_mul_left a h1
    refine Nat.le_of_mul_le_mul_right (c := 340282366920938463463374607431768211456) ?_ (by decide)
    have e1 : b * xD q 59 * 340282366920938463463374607431768211456 = b * 340282366920938463463374607431768211456 * xD q 59 := by ac_rfl
    have e2 : a * xS p q 59 * 340282366920938463463374607431768211456 = a * (340282366920938463463374607431768211456 * xS p q 59) := by ac_rfl
    rw [e1, e2]
    refine Nat.le_trans h2 ?_
    rw [Nat.mul_assoc]; exact h3
  rcases far_split p q p1 q1 p2 q2 hq hq2 f5 f6 (Nat.eq_of_beq_eq_true f3) f4 with c | c
  · have nR : ¬ xR a b p q 60 := by
      intro h
      have := xR_mono a b p q p1 q1 60 hq c h
      unfold xR at this; omega
    refine ⟨fun h => absurd h nR, fun h => absurd ?_ nR⟩
    rcases h with h | ⟨h, h'⟩
    · have c3 : p2 * q ≤ p * q2 := by
        have m1 := Nat.mul_le_mul_right q (show p2 ≤ 3 * q2 by omega)
        have m2 := Nat.mul_le_mul_right q2 h
        have : 3 * q2 * q = 3 * q * q2 := by ac_rfl
        omega
      exact xR_mono a b p2 q2 p q 60 f6 c3 (up p2 q2 f2 f6)
    · exact up p q h' hq
  · refine ⟨fun _ => ?_, fun _ => xR_mono a b p2 q2 p q 60 f6 c (up p2 q2 f2 f6)⟩
    by_cases c3 : 3 * q ≤ p
    · exact Or.inl c3
    · refine Or.inr ⟨by omega, Nat.le_trans f2 (Nat.mul_le_mul_left a (rW_mono p2 q2 p q 60 f6 hq c))⟩
theorem xD_le (q n : Nat) (hq : q ≤ 1000) (hn : n ≤ 60) : xD q n ≤ 65536 ^ n := by
  induction n with
  | zero => exact Nat.le_refl _
  | succ k ih =>
    have h1 := Nat.mul_le_mul hq (show k + 1 ≤ 60 by omega)
    have h2 := Nat.mul_le_mul (ih (by omega)) (show q * (k + 1) ≤ 65536 by omega)
    simp only [xD]; rw [Nat.pow_succ]; exact h2
theorem pw_cap (n : Nat) (hn : n ≤ 60) (x : Nat) (hx : x ≤ 10 * 65536 ^ n) (y : Int) (hy : y ≤ x * 65536) : y < 2147483648 ^ 64 := by
  have h1 : 65536 ^ n ≤ 65536 ^ 60 := Nat.pow_le_pow_right (by decide) hn
  have h2 : (10 * 65536 ^ 60 * 65536 : Int) < 2147483648 ^ 64 := by decide +kernel
  have h3 : ((65536 ^ n : Nat) : Int) ≤ 65536 ^ 60 := by
    have : ((65536 ^ 60 : Nat) : Int) = 65536 ^ 60 := by decide +kernel
    omega
  omega
theorem s_reaches (lsm : Nat → Int32) (nsm : Int32) (lst : Nat → Int32) (nst wa wb p1 p2 : Int32) (a b p q : Nat)
    (Q : Int32 → (Nat → Int32) → Int32 → (Nat → Int32) → Int32 → Prop) (hwa : wa.toInt = a) (hwb : wb.toInt = b) (h1 : p1.toInt = p) (h2 : p2.toInt = q)
    (ha : 1 ≤ a) (hab : a < b) (hb : b ≤ 10) (hp : p ≤ 3000) (hq : 0 < q) (hq2 : q ≤ 1000)
    (hQ : ∀ r a1 a2 a3 a4, (r = 1 ∧ xR a b p q 60 ∨ r = 0 ∧ ¬ xR a b p q 60) → Q r a1 a2 a3 a4) : w_X2_reaches lsm nsm lst nst wa wb p1 p2 Q := by
  unfold w_X2_reaches
  refine s_become lsm nsm (wb - wa) ((b : Int) - a) _ (v_sub4 hwb hwa (by omega) (by omega)) (by omega) ?_
  intro lsm1 nsm2 hm
  refine s_become lst nst wa a _ hwa (by omega) ?_
  intro lst3 nst4 ht
  refine ⟨fun i l n l' n' => ∃ k M T : Nat, k ≤ 60 ∧ i.toInt = ((k + 1 : Nat) : Int) ∧ rN l n M ∧ rN l' n' T ∧ M + a * xS p q k = b * xD q k ∧ 0 < M ∧ T = a * p ^ k,
    fun i _ _ _ _ => (100 - i.toInt).toNat, ⟨0, b - a, a, by omega, by decide, ?_, ht, ?_, by omega, by simp⟩, ?_⟩
  · have : ((b - a : Nat) : Int) = (b : Int) - a := by omega
    rw [this]; exact hm
  · simp only [xS, xD]; omega
  rintro i lsm6 nsm7 lst8 nst9 ⟨k, M, T, hk, hi, hM, hT, eM, Mpos, eT⟩
  have z60 : (60 : Int32).toInt = 60 := by decide
  refine ⟨fun c => ?_, fun c => ?_⟩
  · rw [q_lt4, z60, hi] at c
    have : k = 60 := by omega
    subst this
    exact hQ _ _ _ _ _ (Or.inr ⟨rfl, by unfold xR; omega⟩)
  · rw [q_lt4, z60, hi] at c
    have hD := xD_le q k hq2 hk
    have hMb : M ≤ 10 * 65536 ^ k := by
      have := Nat.mul_le_mul hb hD
      omega
    have hTb : T ≤ 10 * 65536 ^ k := by
      rw [eT]; exact Nat.mul_le_mul (by omega) (Nat.pow_le_pow_left (by omega) k)
    have qk : q * (k + 1) ≤ 60000 := Nat.mul_le_mul hq2 (show k + 1 ≤ 60 by omega)
    have qki : (q : Int) * ((k + 1 : Nat) : Int) ≤ 60000 := by rw [← Int.natCast_mul]; omega
    have qk0 : (0 : Int) ≤ (q : Int) * ((k + 1 : Nat) : Int) := Int.mul_nonneg (by omega) (by omega)
    refine s_times lsm6 nsm7 (p2 * i) M ((q : Int) * ((k + 1 : Nat) : Int)) _ hM (v_mul4 h2 hi (by omega) (by omega)) qk0 ?_ ?_
    · refine pw_cap k hk M hMb _ ?_
      exact Int.mul_le_mul_of_nonneg_left (by omega) (by omega)
    intro lsm11 nsm12 hM11
    refine s_times lst8 nst9 p1 T p _ hT h1 (by omega) ?_ ?_
    · refine pw_cap k hk T hTb _ ?_
      exact Int.mul_le_mul_of_nonneg_left (by omega) (by omega)
    intro lst13 nst14 hT13
    rw [← Int.natCast_mul, ← Int.natCast_mul] at hM11
    rw [← Int.natCast_mul] at hT13
    have eT' : T * p = a * p ^ (k + 1) := by rw [eT, Nat.pow_succ, Nat.mul_assoc]
    have eM' : M * (q * (k + 1)) + T * p + a * xS p q (k + 1) = b * xD q (k + 1) + 2 * (T * p) := by
      simp only [xS, xD]
      have := congrArg (· * (q * (k + 1))) eM
      simp only [Nat.add_mul] at this
      rw [← Nat.mul_assoc b, ← this, Nat.mul_add a, ← eT', Nat.mul_assoc a]
      omega
    have eM'' : M * (q * (k + 1)) + a * xS p q (k + 1) = b * xD q (k + 1) + T * p := by omega
    refine s_isLess lst13 nst14 lsm11 nsm12 1 1 _ _ 1 1 _ hT13 hM11 z4_1 z4_1 (by decide) (by decide) (fun hlt => ?_) (fun hge => ?_)
    · refine ⟨fun _ => ?_, fun c => absurd c (by decide)⟩
      simp only [Int.mul_one] at hlt
      have hlt' : T * p < M * (q * (k + 1)) := by exact_mod_cast hlt
      refine s_plusTimes lsm11 nsm12 lst13 nst14 (-1) _ _ (-1) _ hM11 hT13 z4_m1 (by omega) ?_ ?_
      · have : ((M * (q * (k + 1)) : Nat) : Int) ≤ M * 65536 := by
          have := Nat.mul_le_mul_left M (show q * (k + 1) ≤ 65536 by omega)
          omega
        exact pw_cap k hk M hMb _ (by omega)
      intro lsm16 nsm17 hM16
      have eMn : ((M * (q * (k + 1)) : Nat) : Int) + ((T * p : Nat) : Int) * -1 = ((M * (q * (k + 1)) - T * p : Nat) : Int) := by omega
      rw [eMn] at hM16
      have Mn : M * (q * (k + 1)) - T * p + a * xS p q (k + 1) = b * xD q (k + 1) := by omega
      have Mn0 : 0 < M * (q * (k + 1)) - T * p := by omega
      generalize M * (q * (k + 1)) - T * p = M' at *
      intro v18 e18
      have hin : (i + 1).toInt = ((k + 1 + 1 : Nat) : Int) := q_inc i (k + 1) hi (by omega)
      have qk2 : (k + 1 + 1) * q ≤ 62000 := Nat.mul_le_mul (show k + 1 + 1 ≤ 62 by omega) hq2
      have qk2i : ((k + 1 + 1 : Nat) : Int) * (q : Int) ≤ 62000 := by rw [← Int.natCast_mul]; omega
      have qk20 : (0 : Int) ≤ ((k + 1 + 1 : Nat) : Int) * (q : Int) := Int.mul_nonneg (by omega) (by omega)
      have ev18 : v18.toInt = ((k + 1 + 1 : Nat) : Int) * (q : Int) := by rw [e18]; exact v_mul4 hin h2 (by omega) (by omega)
      have e2p : (2 * p1).toInt = 2 * (p : Int) := v_mul4 (show (2 : Int32).toInt = 2 by decide) h1 (by omega) (by omega)
      have next : ∀ i' : Int32, i' = i + 1 → (∃ k M T : Nat, k ≤ 60 ∧ i'.toInt = ((k + 1 : Nat) : Int) ∧ rN lsm16 nsm17 M ∧ rN lst13 nst14 T ∧ M + a * xS p q k = b * xD q k ∧ 0 < M ∧ T = a * p ^ k)
          ∧ (100 - i'.toInt).toNat < (100 - i.toInt).toNat := by
        rintro i' rfl
        exact ⟨⟨k + 1, M', T * p, by omega, hin, hM16, hT13, Mn, Mn0, eT'⟩, by rw [hin, hi]; omega⟩
      refine ⟨fun t => t = 0 ∨ t = 1 ∧ 2 * p ≤ (k + 2) * q, ⟨fun c => Or.inl rfl, fun c => Or.inr ⟨rfl, ?_⟩⟩, ?_⟩
      · rw [q_lt4, ev18, e2p] at c
        have : (2 * p : Nat) ≤ ((k + 1 + 1) * q : Nat) := by
          have : (2 * (p : Int)) ≤ ((k + 1 + 1 : Nat) : Int) * (q : Int) := by omega
          exact_mod_cast this
        exact this
      · intro t ht
        refine ⟨fun _ => next, fun c => ?_⟩
        rcases ht with ht | ⟨ht, h2p⟩
        · exact absurd ht c
        refine s_isLess lsm16 nsm17 lst13 nst14 1 1 _ _ 1 1 _ hM16 hT13 z4_1 z4_1 (by decide) (by decide) (fun hlt => ?_) (fun hge => ?_)
        · exact ⟨fun _ => next, fun c => absurd c (by decide)⟩
        · refine ⟨fun c => absurd rfl c, fun _ => hQ _ _ _ _ _ (Or.inr ⟨rfl, ?_⟩)⟩
          simp only [Int.mul_one] at hge
          have hge' : T * p ≤ M' := by exact_mod_cast Int.not_lt.mp hge
          have := (xR_early a b p q (k + 1) 60 hq (by omega) (by omega) (by rw [← eT']; omega) (by exact h2p)).1
          unfold xR; omega
    · refine ⟨fun c => absurd rfl c, fun _ => hQ _ _ _ _ _ (Or.inl ⟨rfl, ?_⟩)⟩
      simp only [Int.mul_one] at hge
      have hge' : M * (q * (k + 1)) ≤ T * p := by exact_mod_cast Int.not_lt.mp hge
      exact xR_m a b p q (k + 1) 60 (by omega) (by unfold xR; omega)
theorem q_toNatm4 (a : Int32) : (a.toBitVec.toNat : Int) = a.toInt % 4294967296 := by
  have e : a.toInt = a.toBitVec.toInt := rfl
  have := a.toBitVec.isLt
  rw [e, BitVec.toInt_eq_toNat_cond]
  split <;> omega
theorem q_ofNat4 (a : Int32) (n : Nat) (h : a.toBitVec.toNat = n) (hn : n < 2147483648) : a.toInt = (n : Int) := by
  have e : a.toInt = a.toBitVec.toInt := rfl
  rw [e, BitVec.toInt_eq_toNat_cond, h, if_pos (by omega)]
theorem q_and4 (a b : Int32) (k : Nat) (hb : b.toInt = 2 ^ k - 1) (hk : k ≤ 30) : (a &&& b).toInt = a.toInt % 2 ^ k := by
  have h0 : 1 ≤ (2 : Int) ^ k := Int.pow_pos (by omega)
  have na := q_toNatm4 a
  have hkk : 2 ^ k ≤ 2 ^ 30 := Nat.pow_le_pow_right (by omega) hk
  have hp : 0 < 2 ^ k := Nat.pow_pos (by omega)
  have hkc : ((2 ^ k : Nat) : Int) = 2 ^ k := by push_cast; rfl
  have nb := q_toNatm4 b
  rw [Int.emod_eq_of_lt (by omega) (by omega)] at nb
  have e : (b.toBitVec.toNat) = 2 ^ k - 1 := by omega
  have hm := Nat.mod_lt a.toBitVec.toNat hp
  rw [q_ofNat4 (a &&& b) (a.toBitVec.toNat % 2 ^ k)]
  · push_cast
    rw [na]
    refine Int.emod_emod_of_dvd a.toInt ⟨2 ^ (32 - k), ?_⟩
    rw [← Int.pow_add]
    have : k + (32 - k) = 32 := by omega
    rw [this]; rfl
  · rw [Int32.toBitVec_and, BitVec.toNat_and, e, Nat.and_two_pow_sub_one_eq_mod]
  · omega
theorem q_shr4 (a s : Int32) (k : Nat) (hk : (s.toBitVec.smod 32).toNat = k) : (a >>> s).toInt = a.toInt / 2 ^ k := by
  have e : ∀ x : Int32, x.toInt = x.toBitVec.toInt := fun _ => rfl
  rw [e, e, Int32.toBitVec_shiftRight, BitVec.sshiftRight_eq', hk, BitVec.toInt_sshiftRight, Int.shiftRight_eq_div_pow]
  push_cast; rfl
theorem q_and164 (a : Int32) : (a &&& 65535).toInt = a.toInt % 65536 := q_and4 a _ 16 (by decide) (by decide)
theorem q_shr164 (a : Int32) : (a >>> ((16 : Int32) &&& 31)).toInt = a.toInt / 65536 := q_shr4 a _ 16 (by decide)
theorem dR_zero (B : Int) (hB : 0 < B) (f : Nat → Int) (k : Nat) (v : Int) (h : dR B f k v) (hz : ∀ i, i < k → f i = 0) : v = 0 := by
  induction k with
  | zero => obtain ⟨a, b, _⟩ := h; simp only [Int.pow_zero] at b; omega
  | succ n ih => exact ih (dR_down B hB f n v h (hz n (by omega))) (fun i hi => hz i (by omega))
theorem z10 : (10 : Int32).toInt = 10 := by decide
theorem B16 : (0 : Int) < 65536 := by decide
theorem s_mreaches (ma mb : Int32) (who : Nat → Int32) (a b W : Nat) (Q : Int32 → Prop) (hma : ma.toInt = a) (hmb : mb.toInt = b) (ha : a ≤ 10) (hb : b ≤ 10)
    (hW : dR 65536 (vL who) 10 (W : Int)) (hWb : W ≤ 2 ^ 133) (h1 : b * 340282366920938463463374607431768211456 ≤ a * W → Q 1) (h0 : ¬ b * 340282366920938463463374607431768211456 ≤ a * W → Q 0) :
    w_X5_reaches ma mb who Q := by
  have hB := B16
  unfold w_X5_reaches
  refine ⟨fun i z c => ∃ j : Nat, j ≤ 10 ∧ i.toInt = j ∧ c.toInt = dc 65536 W 0 a 0 0 j ∧ (9 ≤ j → z.toInt = dd 65536 ((W : Int) * a) 8),
    fun i _ _ => (100 - i.toInt).toNat, ⟨0, by omega, by decide, by rw [dc_0]; decide, fun h => absurd h (by omega)⟩, ?_⟩
  rintro i z c ⟨j, hj, hi, hc, hz⟩
  refine ⟨fun a1 => ?_, fun a1 => ?_⟩
  · rw [q_le4, z10, hi] at a1
    have e8 := hz (by omega)
    have ep : (65536 : Int) ^ 8 = 340282366920938463463374607431768211456 := by decide
    have ep9 : (65536 : Int) ^ 9 = 340282366920938463463374607431768211456 * 65536 := by decide
    have hx : a * W ≤ 10 * 2 ^ 133 := Nat.mul_le_mul ha hWb
    have hxi : (W : Int) * a = ((a * W : Nat) : Int) := by push_cast; exact Int.mul_comm _ _
    rw [dd_top 65536 hB _ 8 (by rw [hxi]; omega) (by rw [hxi, ep9]; omega), ep, hxi] at e8
    refine ⟨fun c1 => ?_, fun c1 => ?_⟩
    · rw [q_lt8, e8, q_48, hmb] at c1
      exact h0 (by omega)
    · rw [q_lt8, e8, q_48, hmb] at c1
      exact h1 (by omega)
  · rw [q_le4, z10, hi] at a1
    refine ⟨q_in i 10 (by omega) (by omega), ?_⟩
    intro v6 e6 i7 e7 c8 ec8
    have xd : (who j).toInt = dd 65536 W j := hW.2.2 j (by omega)
    have d0 := dd_nn 65536 hB W j
    have d1 := dd_lt 65536 hB W j
    have cb := dc_b 65536 hB W 0 a 0 0 10 0 j (by omega) (by omega) (by omega) (by omega) (by omega) (by omega) (by omega) (by omega)
    have m0 := dab (dd 65536 W j) 65536 a 10 d0 (by omega) (by omega) (by omega) (by omega)
    have ev : v6.toInt = a * dd 65536 W j := by
      rw [e6, q_ix i j hi]
      have m0 := m0
      rw [Int.mul_comm (dd 65536 (W : Int) j)] at m0
      exact v_mul8 (v_48 hma) (v_48 xd) (by omega) (by omega)
    rw [Int.mul_comm (a : Int)] at ev
    have ec : i7.toInt = dd 65536 W j * a + dd 65536 0 j * 0 + dc 65536 W 0 a 0 0 j := by
      rw [e7, v_add8 ev hc (by omega) (by omega)]; omega
    have es := dc_s 65536 hB W 0 a 0 0 j
    have ed := dc_d 65536 hB W 0 a 0 0 j
    rw [← ec] at es ed
    simp only [Int.zero_mul, Int.add_zero] at ed
    have ecc : c8.toInt = dc 65536 W 0 a 0 0 (j + 1) := by rw [ec8, q_shr16, es]
    have mm : (100 - (i + 1).toInt).toNat < (100 - i.toInt).toNat := by rw [q_inc i j hi (by omega), hi]; omega
    refine ⟨fun n8 => ?_, fun n8 => ?_⟩
    · rintro i9 rfl
      refine ⟨⟨j + 1, by omega, q_inc i j hi (by omega), ecc, fun h9 => hz ?_⟩, mm⟩
      have : j ≠ 8 := fun h => n8 (by rw [q_eq4, hi, h]; decide)
      omega
    · intro z10' ez i11 e11
      subst e11
      rw [q_eq4, hi] at n8
      have : j = 8 := by have : (8 : Int32).toInt = 8 := by decide
                         omega
      subst this
      exact ⟨⟨9, by omega, q_inc i 8 hi (by omega), ecc, fun _ => by rw [ez, q_and16, ed]⟩, mm⟩
theorem rW_stop (p q n m : Nat) (h : rT p q n = 0) (hm : n ≤ m) : rW p q m = rW p q n ∧ rT p q m = 0 := by
  obtain ⟨d, rfl⟩ := Nat.exists_eq_add_of_le hm
  induction d with
  | zero => exact ⟨rfl, h⟩
  | succ k ih =>
    obtain ⟨i1, i2⟩ := ih (by omega)
    rw [← Nat.add_assoc]
    simp only [rW, rT, i1, i2, Nat.add_zero, Nat.zero_mul, Nat.zero_div, and_self]
theorem z4_3 : (3 : Int32).toInt = 3 := by decide
theorem s_enough (ma mb : Int32) (trm who : Nat → Int32) (p0 p1 : Int32) (a b p q : Nat) (Q : Int32 → (Nat → Int32) → (Nat → Int32) → Prop)
    (hma : ma.toInt = a) (hmb : mb.toInt = b) (h1 : p0.toInt = p) (h2 : p1.toInt = q) (ha : 1 ≤ a) (hab : a < b) (hb : b ≤ 10) (hp : p ≤ 3000) (hq : 0 < q) (hq2 : q ≤ 1000)
    (hQ : ∀ r t w, (r = 1 ∧ xR a b p q 60 ∨ r = 0 ∧ ¬ xR a b p q 60) → Q r t w) : w_X5_enough ma mb trm who p0 p1 Q := by
  have hB := B16
  have fa := far_agree a b p q ha hab hb hq hq2
  have e3 : (3 * p1).toInt = 3 * (q : Int) := v_mul4 z4_3 h2 (by omega) (by omega)
  unfold w_X5_enough
  refine ⟨fun c => ?_, fun c => ?_⟩
  rotate_left
  · rw [q_lt4, h1, e3] at c
    exact hQ _ _ _ (Or.inl ⟨rfl, fa.mpr (Or.inl (by omega))⟩)
  rw [q_lt4, h1, e3] at c
  have hpq : p < 3 * q := by omega
  refine ⟨fun i t w => ∃ j : Nat, j ≤ 10 ∧ i.toInt = j ∧ (∀ m, m < j → (t m).toInt = dd 65536 340282366920938463463374607431768211456 m) ∧ (∀ m, m < j → (w m).toInt = 0),
    fun i _ _ => (100 - i.toInt).toNat, ⟨0, by omega, by decide, fun m h => absurd h (by omega), fun m h => absurd h (by omega)⟩, ?_⟩
  rintro i t w ⟨j, hj, hi, ht, hw⟩
  refine ⟨fun a1 => ?_, fun a1 => ?_⟩
  rotate_left
  · rw [q_le4, z10, hi] at a1
    have z8 : (8 : Int32).toInt = 8 := by decide
    have mm : (100 - (i + 1).toInt).toNat < (100 - i.toInt).toNat := by rw [q_inc i j hi (by omega), hi]; omega
    refine ⟨fun n8 => ⟨q_in i 10 (by omega) (by omega), ?_⟩, fun n8 => ⟨q_in i 10 (by omega) (by omega), ?_⟩⟩
    · intro t50 et
      refine ⟨q_in i 10 (by omega) (by omega), ?_⟩
      intro w51 ew i52 e52
      subst e52
      refine ⟨⟨j + 1, by omega, q_inc i j hi (by omega), ?_, ?_⟩, mm⟩
      · intro m hm
        rw [et, q_ix i j hi]
        by_cases cm : m = j
        · subst cm
          rw [upd_e, z4_0]
          have h8 : m ≠ 8 := fun h => n8 (by rw [q_eq4, hi, h]; decide)
          have : ∀ x : Fin 10, x.val ≠ 8 → 0 = dd 65536 340282366920938463463374607431768211456 x.val := by decide +kernel
          exact this ⟨m, by omega⟩ h8
        · rw [upd_n _ _ _ _ cm]; exact ht m (by omega)
      · intro m hm
        rw [ew, q_ix i j hi]
        by_cases cm : m = j
        · subst cm; rw [upd_e, z4_0]
        · rw [upd_n _ _ _ _ cm]; exact hw m (by omega)
    · intro t50 et
      refine ⟨q_in i 10 (by omega) (by omega), ?_⟩
      intro w51 ew i52 e52
      subst e52
      rw [q_eq4, hi, z8] at n8
      have j8 : j = 8 := by omega
      refine ⟨⟨j + 1, by omega, q_inc i j hi (by omega), ?_, ?_⟩, mm⟩
      · intro m hm
        rw [et, q_ix i j hi]
        by_cases cm : m = j
        · subst cm
          rw [upd_e, z4_1, j8]
          decide +kernel
        · rw [upd_n _ _ _ _ cm]; exact ht m (by omega)
      · intro m hm
        rw [ew, q_ix i j hi]
        by_cases cm : m = j
        · subst cm; rw [upd_e, z4_0]
        · rw [upd_n _ _ _ _ cm]; exact hw m (by omega)
  rw [q_le4, z10, hi] at a1
  have j10 : j = 10 := by omega
  subst j10
  have p10 : (65536 : Int) ^ 10 = 1461501637330902918203684832716283019655932542976 := by decide
  refine ⟨fun i f t w => ∃ n : Nat, n ≤ 60 ∧ i.toInt = ((n + 1 : Nat) : Int) ∧ dR 65536 (vL t) 10 (rT p q n) ∧ dR 65536 (vL w) 10 (rW p q n) ∧ (f = 0 ∧ rT p q n = 0 ∨ f = 1 ∧ rT p q n ≠ 0),
    fun i _ _ _ => (100 - i.toInt).toNat, ⟨0, by omega, by decide, ⟨by simp only [rT]; decide, by simp only [rT]; rw [p10]; decide, ht⟩, ⟨by omega, by rw [p10]; simp only [rW]; decide, fun m hm => ?_⟩, Or.inr ⟨rfl, by simp only [rT]; decide⟩⟩, ?_⟩
  · show (w m).toInt = _
    rw [hw m hm]; exact (dd_0 65536 m).symm
  rintro i f t w ⟨n, hn, hi, hT, hW, hf⟩
  have T1 := rT_le p q n hq hpq
  have T2 := rT_le p q (n + 1) hq hpq
  have W1 := rW_le p q n hq hpq
  have W2 := rW_le p q (n + 1) hq hpq
  refine ⟨fun c0 => ?_, fun c0 => ?_⟩
  · rcases hf with ⟨_, hf⟩ | ⟨hf, _⟩
    rotate_left
    · rw [hf] at c0; exact absurd c0 (by decide)
    have st := rW_stop p q n 60 hf hn
    refine s_mreaches ma mb w a b (rW p q n) _ hma hmb (by omega) hb hW W1 (fun h => ?_) (fun h => ?_)
    · exact hQ _ _ _ (Or.inl ⟨rfl, fa.mpr (Or.inr ⟨hpq, by rw [st.1]; exact h⟩)⟩)
    · refine hQ _ _ _ (Or.inr ⟨rfl, fun hr => ?_⟩)
      rcases fa.mp hr with h' | ⟨_, h'⟩
      · omega
      · rw [st.1] at h'; exact h h'
  have hT0 : rT p q n ≠ 0 := by
    rcases hf with ⟨hf, _⟩ | ⟨_, hf⟩
    · exact absurd hf c0
    · exact hf
  have n60 : n < 60 := by
    apply Nat.lt_of_not_le; intro h; exact hT0 (rT_60 p q n hq hpq h)
  refine ⟨fun i6 cr w13 => ∃ j : Nat, j ≤ 10 ∧ i6.toInt = j ∧ cr.toInt = dc 65536 (rW p q n) (rT p q n) 1 1 0 j ∧ (∀ m, m < j → vL w13 m = dd 65536 (rW p q (n + 1)) m) ∧ (∀ m, j ≤ m → vL w13 m = vL w m),
    fun i _ _ => (100 - i.toInt).toNat, ⟨0, by omega, by decide, by rw [dc_0]; decide, fun m h => absurd h (by omega), fun m _ => rfl⟩, ?_⟩
  rintro i6 cr w13 ⟨j, hj, hij, hcr, hlo, hhi⟩
  have eWi : ((rW p q (n + 1) : Nat) : Int) = (rW p q n : Int) * 1 + (rT p q n : Int) * 1 + 0 := by simp only [rW]; omega
  refine ⟨fun a2 => ?_, fun a2 => ?_⟩
  rotate_left
  · rw [q_le4, z10, hij] at a2
    refine ⟨q_in i6 10 (by omega) (by omega), q_in i6 10 (by omega) (by omega), ?_⟩
    intro v43 e43 i7 e7
    refine ⟨q_in i6 10 (by omega) (by omega), ?_⟩
    intro w45 e45 i5 e5 i47 e47
    subst e47
    have x1 : (w13 j).toInt = dd 65536 (rW p q n) j := by
      have := hhi j (by omega); unfold vL at this; rw [this]; exact hW.2.2 j (by omega)
    have x2 : (t j).toInt = dd 65536 (rT p q n) j := hT.2.2 j (by omega)
    have d0 := dd_nn 65536 hB (rW p q n) j
    have d1 := dd_lt 65536 hB (rW p q n) j
    have d2 := dd_nn 65536 hB (rT p q n) j
    have d3 := dd_lt 65536 hB (rT p q n) j
    have cb := dc_b 65536 hB (rW p q n) (rT p q n) 1 1 0 1 1 j (by omega) (by omega) (by omega) (by omega) (by omega) (by omega) (by omega) (by omega)
    have ev : i7.toInt = dd 65536 (rW p q n) j * 1 + dd 65536 (rT p q n) j * 1 + dc 65536 (rW p q n) (rT p q n) 1 1 0 j := by
      rw [e7, e43, q_ix i6 j hij, v_add4 (v_add4 x1 x2 (by omega) (by omega)) hcr (by omega) (by omega)]; omega
    have es := dc_s 65536 hB (rW p q n) (rT p q n) 1 1 0 j
    have ed := dc_d 65536 hB (rW p q n) (rT p q n) 1 1 0 j
    rw [← ev] at es ed
    rw [← eWi] at ed
    refine ⟨⟨j + 1, by omega, q_inc i6 j hij (by omega), by rw [e5, q_shr164, es], ?_, ?_⟩, ?_⟩
    · intro m hm
      rw [e45, q_ix i6 j hij]
      by_cases cm : m = j
      · subst cm; rw [vL_e, q_and164, ed]
      · rw [vL_n _ _ _ _ cm]; exact hlo m (by omega)
    · intro m hm
      rw [e45, q_ix i6 j hij, vL_n _ _ _ _ (by omega)]; exact hhi m (by omega)
    · show (100 - (i6 + 1).toInt).toNat < (100 - i6.toInt).toNat
      rw [q_inc i6 j hij (by omega), hij]; omega
  rw [q_le4, z10, hij] at a2
  have j10 : j = 10 := by omega
  subst j10
  have hW' : dR 65536 (vL w13) 10 (rW p q (n + 1)) := ⟨by omega, by rw [p10]; omega, hlo⟩
  have TpB : rT p q n * p ≤ 2 ^ 131 * 3000 := Nat.mul_le_mul T1 hp
  have TpBi : ((rT p q n : Int) * p) = ((rT p q n * p : Nat) : Int) := by push_cast; rfl
  refine ⟨fun i8 cr t17 => ∃ j : Nat, j ≤ 10 ∧ i8.toInt = j ∧ cr.toInt = dc 65536 (rT p q n) 0 p 0 0 j ∧ (∀ m, m < j → vL t17 m = dd 65536 ((rT p q n : Int) * p) m) ∧ (∀ m, j ≤ m → vL t17 m = vL t m),
    fun i _ _ => (100 - i.toInt).toNat, ⟨0, by omega, by decide, by rw [dc_0]; decide, fun m h => absurd h (by omega), fun m _ => rfl⟩, ?_⟩
  rintro i8 cr t17 ⟨j, hj, hij, hcr, hlo2, hhi2⟩
  refine ⟨fun a2 => ?_, fun a2 => ?_⟩
  rotate_left
  · rw [q_le4, z10, hij] at a2
    refine ⟨q_in i8 10 (by omega) (by omega), ?_⟩
    intro v37 e37 i9 e9
    refine ⟨q_in i8 10 (by omega) (by omega), ?_⟩
    intro t39 e39 i6_40 e40 i41 e41
    subst e41
    have x1 : (t17 j).toInt = dd 65536 (rT p q n) j := by
      have := hhi2 j (by omega); unfold vL at this; rw [this]; exact hT.2.2 j (by omega)
    have d0 := dd_nn 65536 hB (rT p q n) j
    have d1 := dd_lt 65536 hB (rT p q n) j
    have cb := dc_b 65536 hB (rT p q n) 0 p 0 0 3000 0 j (by omega) (by omega) (by omega) (by omega) (by omega) (by omega) (by omega) (by omega)
    have m0 := dab (dd 65536 (rT p q n) j) 65536 p 3000 d0 (by omega) (by omega) (by omega) (by omega)
    have ev : i9.toInt = dd 65536 (rT p q n) j * p + dd 65536 0 j * 0 + dc 65536 (rT p q n) 0 p 0 0 j := by
      rw [e9, e37, q_ix i8 j hij, v_add8 (v_mul8 (v_48 x1) (v_48 h1) (by omega) (by omega)) hcr (by omega) (by omega)]; omega
    have es := dc_s 65536 hB (rT p q n) 0 p 0 0 j
    have ed := dc_d 65536 hB (rT p q n) 0 p 0 0 j
    rw [← ev] at es ed
    simp only [Int.zero_mul, Int.add_zero] at ed
    have r0 : 0 ≤ i9.toInt % 65536 := Int.emod_nonneg _ (by decide)
    have r1 : i9.toInt % 65536 < 65536 := Int.emod_lt_of_pos _ (by decide)
    refine ⟨⟨j + 1, by omega, q_inc i8 j hij (by omega), by rw [e40, q_shr16, es], ?_, ?_⟩, ?_⟩
    · intro m hm
      rw [e39, q_ix i8 j hij]
      by_cases cm : m = j
      · subst cm; rw [vL_e, v_84 (q_and16 i9) (by omega) (by omega), ed]
      · rw [vL_n _ _ _ _ cm]; exact hlo2 m (by omega)
    · intro m hm
      rw [e39, q_ix i8 j hij, vL_n _ _ _ _ (by omega)]; exact hhi2 m (by omega)
    · show (100 - (i8 + 1).toInt).toNat < (100 - i8.toInt).toNat
      rw [q_inc i8 j hij (by omega), hij]; omega
  rw [q_le4, z10, hij] at a2
  have j10 : j = 10 := by omega
  subst j10
  have eT' : ((rT p q (n + 1) : Nat) : Int) = (rT p q n : Int) * p / ((q * (n + 1) : Nat) : Int) := by rw [TpBi]; rfl
  have hd0 : 0 < q * (n + 1) := Nat.mul_pos hq (by omega)
  have hd1 : q * (n + 1) ≤ 1000 * 60 := Nat.mul_le_mul hq2 (by omega)
  have hv0 : (0 : Int) ≤ (rT p q n : Int) * p := by omega
  have hvB : (rT p q n : Int) * p < 65536 ^ 10 := by rw [p10]; omega
  have eden : (p1.toInt64 * i.toInt64).toInt = ((q * (n + 1) : Nat) : Int) := by
    have : ((q * (n + 1) : Nat) : Int) = (q : Int) * ((n + 1 : Nat) : Int) := Int.natCast_mul _ _
    rw [this]; exact v_mul8 (v_48 h2) (v_48 hi) (by omega) (by omega)
  have hnc : 0 ≤ cr.toInt := by rw [hcr]; exact dc_nn 65536 hB _ _ _ _ _ _ (by omega) (by omega) (by omega)
  have hc10 : cr.toInt = 0 := by
    rw [hcr, dc_end 65536 _ 0 _ _ _ 10 hT.1 hT.2.1 (by omega) (by rw [p10]; omega)]
    simp only [Int.zero_mul, Int.add_zero]
    exact Int.ediv_eq_zero_of_lt hv0 hvB
  generalize q * (n + 1) = d at *
  generalize hV : (rT p q n : Int) * p = V at *
  refine ⟨fun i10 fl rm t22 => ∃ j : Nat, j ≤ 10 ∧ i10.toInt = (j : Int) - 1 ∧ rm.toInt = V / 65536 ^ j % (d : Int) ∧ (∀ m, j ≤ m → m < 10 → vL t22 m = dd 65536 (V / (d : Int)) m) ∧ (∀ m, m < j → vL t22 m = dd 65536 V m)
      ∧ (fl = 0 ∧ (∀ m, j ≤ m → m < 10 → vL t22 m = 0) ∨ fl = 1 ∧ (∃ m, j ≤ m ∧ m < 10 ∧ vL t22 m ≠ 0)),
    fun i _ _ _ => (i.toInt + 1).toNat, ⟨10, by omega, by decide, ?_, fun m h h' => absurd h (by omega), hlo2, Or.inl ⟨rfl, fun m h h' => absurd h (by omega)⟩⟩, ?_⟩
  · rw [hc10, Int.ediv_eq_zero_of_lt hv0 hvB]; rfl
  rintro i10 fl rm t22 ⟨j, hj, hij, hrm, hhi3, hlo3, hfl⟩
  refine ⟨fun a3 => ?_, fun a3 => ?_⟩
  · rw [q_lt4, z4_0, hij] at a3
    have j0 : j = 0 := by omega
    subst j0
    rintro i24 e24
    subst e24
    have hT' : dR 65536 (vL t22) 10 (rT p q (n + 1)) := ⟨by omega, by rw [p10]; omega, fun m hm => by rw [eT']; exact hhi3 m (by omega) hm⟩
    refine ⟨⟨n + 1, by omega, q_inc i (n + 1) hi (by omega), hT', hW', ?_⟩, ?_⟩
    · rcases hfl with ⟨e, h⟩ | ⟨e, m, _, hm, hne⟩
      · refine Or.inl ⟨e, ?_⟩
        have := dR_zero 65536 hB _ 10 _ hT' (fun m hm => h m (by omega) hm)
        omega
      · refine Or.inr ⟨e, fun h => hne ?_⟩
        rw [hT'.2.2 m hm, h]; exact dd_0 _ _
    · show (100 - (i + 1).toInt).toNat < (100 - i.toInt).toNat
      rw [q_inc i (n + 1) hi (by omega), hi]; omega
  · rw [q_lt4, z4_0, hij] at a3
    obtain ⟨m, rfl⟩ : ∃ m, j = m + 1 := ⟨j - 1, by omega⟩
    have him : i10.toInt = (m : Int) := by omega
    refine ⟨q_in i10 10 (by omega) (by omega), ?_⟩
    intro v25 e25 v26 e26
    have dne : ¬ v26 = 0 := by rw [q_eq8, e26, eden, z8_0]; omega
    refine ⟨dne, ?_⟩
    intro v27 e27
    refine ⟨q_in i10 10 (by omega) (by omega), ?_⟩
    intro t28 e28 v29 e29
    have dne9 : ¬ v29 = 0 := by rw [q_eq8, e29, eden, z8_0]; omega
    refine ⟨dne9, ?_⟩
    intro v30 e30
    refine ⟨q_in i10 10 (by omega) (by omega), ?_⟩
    have ds := dv_step 65536 hB V d (by omega) m
    have c0 := Int.emod_nonneg (V / 65536 ^ (m + 1)) (show (d : Int) ≠ 0 by omega)
    have c1 := Int.emod_lt_of_pos (V / 65536 ^ (m + 1)) (show (0 : Int) < d by omega)
    have d0 := dd_nn 65536 hB V m
    have d1 := dd_lt 65536 hB V m
    have q0 := dd_nn 65536 hB (V / d) m
    have q1 := dd_lt 65536 hB (V / d) m
    have x1 : (t22 i10.toNatClampNeg).toInt = dd 65536 V m := by rw [q_ix i10 m him]; exact hlo3 m (by omega)
    have z65 : (65536 : Int64).toInt = 65536 := by decide
    have ev25 : v25.toInt = V / 65536 ^ (m + 1) % d * 65536 + dd 65536 V m := by
      rw [e25]; exact v_add8 (v_mul8 hrm z65 (by omega) (by omega)) (v_48 x1) (by omega) (by omega)
    have ed26 : v26.toInt = (d : Int) := by rw [e26]; exact eden
    have ed29 : v29.toInt = (d : Int) := by rw [e29]; exact eden
    have ev27 : v27.toInt = dd 65536 (V / d) m := by
      rw [e27, v_div8 ev25 ed26 (by omega) (by omega), ds.1]
    have ev30 : v30.toInt = V / 65536 ^ m % d := by
      rw [e30, v_rem8 ev25 ed29 (by omega) (by omega), ds.2]
    have et28 : ∀ x, m ≤ x → x < 10 → vL t28 x = dd 65536 (V / (d : Int)) x := by
      intro x hx hx2
      rw [e28, q_ix i10 m him]
      by_cases cm : x = m
      · subst cm; rw [vL_e, v_84 ev27 (by omega) (by omega)]
      · rw [vL_n _ _ _ _ cm]; exact hhi3 x (by omega) hx2
    have et28l : ∀ x, x < m → vL t28 x = dd 65536 V x := by
      intro x hx
      rw [e28, q_ix i10 m him, vL_n _ _ _ _ (by omega)]; exact hlo3 x (by omega)
    have et28h : ∀ x, m + 1 ≤ x → vL t28 x = vL t22 x := by
      intro x hx
      rw [e28, q_ix i10 m him, vL_n _ _ _ _ (by omega)]
    have mm : ((i10 + -1).toInt + 1).toNat < (i10.toInt + 1).toNat := by rw [q_decm i10 m him (by omega), hij]; omega
    have tm : (t28 i10.toNatClampNeg).toInt = vL t28 m := by rw [q_ix i10 m him]; rfl
    refine ⟨fun a4 => ?_, fun a4 => ?_⟩
    · rw [q_eq4, z4_0, tm] at a4
      intro f31 e31 i32 e32
      subst e32
      refine ⟨⟨m, by omega, by rw [q_decm i10 m him (by omega)], ev30, et28, et28l, ?_⟩, mm⟩
      rcases hfl with ⟨e, h⟩ | ⟨e, x, hx1, hx, hne⟩
      · refine Or.inl ⟨by rw [e31, e]; decide, fun x hx1 hx2 => ?_⟩
        by_cases cm : x = m
        · rw [cm]; exact a4
        · rw [et28h x (by omega)]; exact h x (by omega) hx2
      · exact Or.inr ⟨by rw [e31, e]; decide, x, by omega, hx, by rw [et28h x hx1]; exact hne⟩
    · rw [q_eq4, z4_0, tm] at a4
      intro f31 e31 i32 e32
      subst e32
      refine ⟨⟨m, by omega, by rw [q_decm i10 m him (by omega)], ev30, et28, et28l, Or.inr ⟨?_, m, by omega, by omega, a4⟩⟩, mm⟩
      rcases hfl with ⟨e, h⟩ | ⟨e, h⟩ <;> (rw [e31, e]; decide)
theorem z4_1000 : (1000 : Int32).toInt = 1000 := by decide
theorem z4_3000 : (3000 : Int32).toInt = 3000 := by decide
theorem s_isDen (p1 : Int32) (Q : Int32 → Prop) (h1 : 1 ≤ p1.toInt ∧ p1.toInt ≤ 1000 → Q 1) (h0 : ¬ (1 ≤ p1.toInt ∧ p1.toInt ≤ 1000) → Q 0) : w_X4_isDenominator p1 Q := by
  unfold w_X4_isDenominator
  rw [q_lt4, z4_1, q_lt4, z4_1000]
  exact ⟨fun c => h0 (by omega), fun c => ⟨fun c2 => h0 (by omega), fun c2 => h1 (by omega)⟩⟩
theorem s_isGrant (p0 p1 : Int32) (Q : Int32 → Prop) (h1 : 0 ≤ p0.toInt ∧ 1 ≤ p1.toInt ∧ p1.toInt ≤ 1000 → Q 1) (h0 : ¬ (0 ≤ p0.toInt ∧ 1 ≤ p1.toInt ∧ p1.toInt ≤ 1000) → Q 0) : w_X4_isGrant p0 p1 Q := by
  unfold w_X4_isGrant
  rw [q_lt4, z4_0]
  refine ⟨fun c => h0 (by omega), fun c => s_isDen p1 _ (fun d => ⟨fun e => absurd e (by decide), fun _ => h1 (by omega)⟩) (fun d => ⟨fun _ => h0 (by omega), fun e => absurd rfl e⟩)⟩
theorem s_isCost (p0 p1 : Int32) (Q : Int32 → Prop) (h1 : 0 ≤ p0.toInt ∧ p0.toInt ≤ 3000 ∧ 1 ≤ p1.toInt ∧ p1.toInt ≤ 1000 → Q 1) (h0 : ¬ (0 ≤ p0.toInt ∧ p0.toInt ≤ 3000 ∧ 1 ≤ p1.toInt ∧ p1.toInt ≤ 1000) → Q 0) : w_X4_isCost p0 p1 Q := by
  unfold w_X4_isCost
  rw [q_lt4, z4_0, q_lt4, z4_3000]
  refine ⟨fun c => h0 (by omega), fun c => ⟨fun c2 => h0 (by omega), fun c2 => s_isDen p1 _ (fun d => ⟨fun e => absurd e (by decide), fun _ => h1 (by omega)⟩) (fun d => ⟨fun _ => h0 (by omega), fun e => absurd rfl e⟩)⟩⟩
theorem s_noPart (p0 p1 : Int32) (Q : Int32 → Prop) (h0 : 0 ≤ p0.toInt ∧ 1 ≤ p1.toInt ∧ p1.toInt ≤ 1000 → Q 0) (h1 : ¬ (0 ≤ p0.toInt ∧ 1 ≤ p1.toInt ∧ p1.toInt ≤ 1000) → Q 1) : w_X5_noPart p0 p1 Q := by
  unfold w_X5_noPart
  rw [q_lt4, z4_0, q_lt4, z4_1, q_le4, z4_1000]
  refine ⟨fun c => h1 (by omega), fun c => ⟨fun c2 => h1 (by omega), fun c2 => ⟨fun c3 => h0 (by omega), fun c3 => h1 (by omega)⟩⟩⟩
theorem s_noCost (p0 p1 : Int32) (Q : Int32 → Prop) (h0 : 0 ≤ p0.toInt ∧ p0.toInt ≤ 3000 ∧ 1 ≤ p1.toInt ∧ p1.toInt ≤ 1000 → Q 0) (h1 : ¬ (0 ≤ p0.toInt ∧ p0.toInt ≤ 3000 ∧ 1 ≤ p1.toInt ∧ p1.toInt ≤ 1000) → Q 1) : w_X5_noCost p0 p1 Q := by
  unfold w_X5_noCost
  rw [q_lt4, z4_0, q_lt4, z4_3000, q_lt4, z4_1, q_le4, z4_1000]
  refine ⟨fun c => h1 (by omega), fun c => ⟨fun c2 => h1 (by omega), fun c2 => ⟨fun c3 => h1 (by omega), fun c3 => ⟨fun c4 => h0 (by omega), fun c4 => h1 (by omega)⟩⟩⟩⟩
def xL (a b q m : Nat) : Prop := 1 ≤ m ∧ m ≤ 3 * q ∧ (m = 3 * q ∨ xR a b m q 60) ∧ (m = 1 ∨ ¬ xR a b (m - 1) q 60)
theorem xL_le (a b q m n : Nat) (hq : 0 < q) (h : xL a b q m) (h' : xL a b q n) : n ≤ m := by
  apply Nat.le_of_not_lt; intro hc
  obtain ⟨m1, m2, m3, m4⟩ := h
  obtain ⟨n1, n2, n3, n4⟩ := h'
  rcases m3 with m3 | m3
  · omega
  · rcases n4 with n4 | n4
    · omega
    · exact n4 (xR_mono a b m q (n - 1) q 60 hq (Nat.mul_le_mul_right q (by omega)) m3)
theorem s_mleast (ma mb thr : Int32) (trm who : Nat → Int32) (p0 : Int32) (a b : Nat) (Q : Int32 → Int32 → (Nat → Int32) → (Nat → Int32) → Prop)
    (hma : ma.toInt = a) (hmb : mb.toInt = b) (ha : 1 ≤ a) (hab : a < b) (hb : b ≤ 10)
    (h1 : ¬ (1 ≤ p0.toInt ∧ p0.toInt ≤ 1000) → Q 0 1 trm who)
    (hQ : ∀ (q m : Nat) (r : Int32) t w, p0.toInt = q → 1 ≤ q → q ≤ 1000 → r.toInt = m → xL a b q m → Q r 0 t w) : w_X5_least ma mb thr trm who p0 Q := by
  unfold w_X5_least
  refine ⟨fun t => (t = 0 ∧ 1 ≤ p0.toInt ∧ p0.toInt ≤ 1000) ∨ (t = 1 ∧ ¬ (1 ≤ p0.toInt ∧ p0.toInt ≤ 1000)), ?_, ?_⟩
  · rw [q_lt4, z4_1, q_le4, z4_1000]
    exact ⟨fun c => Or.inr ⟨rfl, by omega⟩, fun c => ⟨fun c2 => Or.inl ⟨rfl, by omega⟩, fun c2 => Or.inr ⟨rfl, by omega⟩⟩⟩
  rintro t (⟨rfl, hq1, hq2⟩ | ⟨rfl, hn⟩)
  rotate_left
  · exact ⟨fun c => absurd c (by decide), fun _ => h1 hn⟩
  refine ⟨fun _ => ?_, fun c => absurd (by decide) c⟩
  obtain ⟨q, hq⟩ := Int.eq_ofNat_of_zero_le (show 0 ≤ p0.toInt by omega)
  intro i3 e3
  have ei3 : i3.toInt = 3 * (q : Int) := by rw [e3]; exact v_mul4 z4_3 hq (by omega) (by omega)
  refine ⟨fun hi lo _ _ => ∃ h l : Nat, hi.toInt = h ∧ lo.toInt = l ∧ l < h ∧ h ≤ 3 * q ∧ (h = 3 * q ∨ xR a b h q 60) ∧ (l = 0 ∨ ¬ xR a b l q 60),
    fun hi lo _ _ => (hi.toInt - lo.toInt).toNat, ⟨3 * q, 0, by rw [ei3]; rfl, by decide, by omega, by omega, Or.inl rfl, Or.inl rfl⟩, ?_⟩
  rintro hi lo t8 w9 ⟨h, l, hh, hl, hlh, h3, hR, hL⟩
  have ed : (hi - lo).toInt = (h : Int) - l := v_sub4 hh hl (by omega) (by omega)
  refine ⟨fun c => ?_, fun c => ?_⟩
  · rw [q_le4, ed, z4_1] at c
    refine hQ q h hi _ _ hq (by omega) (by omega) hh ⟨by omega, h3, hR, ?_⟩
    rcases hL with hL | hL
    · left; omega
    · right
      have : h - 1 = l := by omega
      rw [this]; exact hL
  · rw [q_le4, ed, z4_1] at c
    intro v11 e11
    have ev : v11.toInt = (((l + h) / 2 : Nat) : Int) := by
      rw [e11, v_div4 (v_add4 hl hh (by omega) (by omega)) (show (2 : Int32).toInt = 2 by decide) (by omega) (by omega)]; omega
    have m1 : l < (l + h) / 2 := by omega
    have m2 : (l + h) / 2 < h := by omega
    generalize (l + h) / 2 = mid at *
    refine s_enough ma mb t8 w9 v11 p0 a b mid q _ hma hmb ev hq ha hab hb (by omega) (by omega) (by omega) ?_
    rintro r t13 w14 (⟨rfl, hr⟩ | ⟨rfl, hr⟩)
    · refine ⟨fun c => absurd c (by decide), fun _ => ⟨fun c => absurd c (by decide), fun _ => ⟨⟨mid, l, ev, hl, m1, by omega, Or.inr hr, hL⟩, ?_⟩⟩⟩
      simp only [ev, hh, hl]; omega
    · refine ⟨fun _ => ⟨fun _ => ⟨⟨h, mid, hh, ev, m2, h3, hR, Or.inr hr⟩, ?_⟩, fun c => absurd rfl c⟩, fun c => absurd rfl c⟩
      simp only [ev, hh, hl]; omega
theorem s_cleast (wa wb : Int32) (lsm : Nat → Int32) (nsm : Int32) (lst : Nat → Int32) (nst : Int32) (p0 : Int32) (a b : Nat) (X : Prop) (Q : Int32 → (Nat → Int32) → Int32 → (Nat → Int32) → Int32 → Prop)
    (hma : wa.toInt = a) (hmb : wb.toInt = b) (ha : 1 ≤ a) (hab : a < b) (hb : b ≤ 10)
    (h1 : ¬ (1 ≤ p0.toInt ∧ p0.toInt ≤ 1000) → X)
    (hQ : ∀ (q m : Nat) (r : Int32) a1 a2 a3 a4, p0.toInt = q → 1 ≤ q → q ≤ 1000 → r.toInt = m → xL a b q m → Q r a1 a2 a3 a4) : w_X4_least wa wb lsm nsm lst nst p0 X Q := by
  unfold w_X4_least
  refine s_isDen p0 _ (fun hq12 => ⟨fun _ => ?_, fun c => absurd c (by decide)⟩) (fun hn => ⟨fun c => absurd rfl c, fun _ => h1 hn⟩)
  obtain ⟨q, hq⟩ := Int.eq_ofNat_of_zero_le (show 0 ≤ p0.toInt by omega)
  intro i3 e3
  have ei3 : i3.toInt = 3 * (q : Int) := by rw [e3]; exact v_mul4 z4_3 hq (by omega) (by omega)
  refine ⟨fun i hi lo _ _ _ _ => ∃ h l s : Nat, i.toInt = s ∧ s ≤ 32 ∧ (h - l - 1) * 2 ^ s ≤ 3000 ∧ hi.toInt = h ∧ lo.toInt = l ∧ l < h ∧ h ≤ 3 * q ∧ (h = 3 * q ∨ xR a b h q 60) ∧ (l = 0 ∨ ¬ xR a b l q 60),
    fun i _ _ _ _ _ _ => (100 - i.toInt).toNat, ⟨3 * q, 0, 0, by decide, by omega, by omega, by rw [ei3]; rfl, by decide, by omega, by omega, Or.inl rfl, Or.inl rfl⟩, ?_⟩
  rintro i hi lo a1 a2 a3 a4 ⟨h, l, s, hs, hs32, hb2, hh, hl, hlh, h3, hR, hL⟩
  have ed : (hi - lo).toInt = (h : Int) - l := v_sub4 hh hl (by omega) (by omega)
  have fin : h - l ≤ 1 → Q hi a1 a2 a3 a4 := by
    intro c
    refine hQ q h hi _ _ _ _ hq (by omega) (by omega) hh ⟨by omega, h3, hR, ?_⟩
    rcases hL with hL | hL
    · left; omega
    · right
      have : h - 1 = l := by omega
      rw [this]; exact hL
  have z32 : (32 : Int32).toInt = 32 := by decide
  refine ⟨fun c => ?_, fun c => ⟨fun c2 => ?_, fun c2 => ?_⟩⟩
  · rw [q_le4, z32, hs] at c
    have : s = 32 := by omega
    subst this
    apply fin
    omega
  · rw [q_le4, ed, z4_1] at c2
    exact fin (by omega)
  · rw [q_le4, ed, z4_1] at c2
    rw [q_le4, z32, hs] at c
    intro v11 e11
    have ev : v11.toInt = (((l + h) / 2 : Nat) : Int) := by
      rw [e11, v_div4 (v_add4 hl hh (by omega) (by omega)) (show (2 : Int32).toInt = 2 by decide) (by omega) (by omega)]; omega
    have m1 : l < (l + h) / 2 := by omega
    have m2 : (l + h) / 2 < h := by omega
    have k1 : 2 * (h - (l + h) / 2 - 1) ≤ h - l - 1 := by omega
    have k2 : 2 * ((l + h) / 2 - l - 1) ≤ h - l - 1 := by omega
    generalize (l + h) / 2 = mid at *
    have mm : ∀ i', i' = i + 1 → (100 - i'.toInt).toNat < (100 - i.toInt).toNat := by
      rintro i' rfl; rw [q_inc i s hs (by omega), hs]; omega
    have pw : ∀ x : Nat, 2 * x ≤ h - l - 1 → x * 2 ^ (s + 1) ≤ 3000 := by
      intro x hx
      have := Nat.mul_le_mul_right (2 ^ s) hx
      rw [Nat.pow_succ, Nat.mul_comm (2 ^ s), ← Nat.mul_assoc, Nat.mul_comm x]; omega
    refine s_reaches a1 a2 a3 a4 wa wb v11 p0 a b mid q _ hma hmb ev hq ha hab hb (by omega) (by omega) (by omega) ?_
    rintro r b1 b2 b3 b4 (⟨rfl, hr⟩ | ⟨rfl, hr⟩)
    · refine ⟨fun c => absurd c (by decide), fun _ i' ei' => ⟨⟨mid, l, s + 1, by rw [ei']; exact q_inc i s hs (by omega), by omega, pw _ k2, ev, hl, m1, by omega, Or.inr hr, hL⟩, mm i' ei'⟩⟩
    · refine ⟨fun _ i' ei' => ⟨⟨h, mid, s + 1, by rw [ei']; exact q_inc i s hs (by omega), by omega, pw _ k1, hh, ev, m2, h3, hR, Or.inr hr⟩, mm i' ei'⟩, fun c => absurd rfl c⟩
