def C64 : Int := 2147483648 ^ 64
def fd (fig : Nat → Int64) (s i : Nat) : Int := (fig (256 * s + i)).toInt
def tL (t : Nat → Int64) (i : Nat) : Int := (t i).toInt
def sR (fig : Nat → Int64) (len : Nat → Int32) (s : Nat) (v : Nat) : Prop := ∃ n : Nat, n ≤ 64 ∧ (len s).toInt = n ∧ dR 2147483648 (fd fig s) n (v : Int) ∧ dT 2147483648 n (v : Int)
def AL (fig : Nat → Int64) (len : Nat → Int32) (V : Nat → Nat) : Prop := ∀ s, s < 18 → sR fig len s (V s)
def sV (V : Nat → Nat) (p x : Nat) : Nat → Nat := fun t => if t = p then x else V t
def FO (p : Nat) (fig fig' : Nat → Int64) : Prop := ∀ k, ¬ (256 * p ≤ k ∧ k < 256 * p + 256) → fig' k = fig k
def LO (p : Nat) (len len' : Nat → Int32) : Prop := ∀ k, k ≠ p → len' k = len k
theorem sV_e (V : Nat → Nat) (p x : Nat) : sV V p x p = x := by unfold sV; rw [if_pos rfl]
theorem sV_n (V : Nat → Nat) (p x s : Nat) (h : s ≠ p) : sV V p x s = V s := by unfold sV; rw [if_neg h]
theorem FO_r (p : Nat) (fig : Nat → Int64) : FO p fig fig := fun _ _ => rfl
theorem FO_t (p : Nat) (f g h : Nat → Int64) (h1 : FO p f g) (h2 : FO p g h) : FO p f h := fun k hk => (h2 k hk).trans (h1 k hk)
theorem FO_u (p j : Nat) (f : Nat → Int64) (x : Int64) (hj : j < 256) : FO p f (vp_updL f (256 * p + j) x) := fun k hk => updL_n _ _ _ _ (by omega)
theorem LO_u (p : Nat) (f : Nat → Int32) (x : Int32) : LO p f (upd f p x) := fun k hk => upd_n _ _ _ _ hk
theorem sR_cap (fig : Nat → Int64) (len : Nat → Int32) (s v : Nat) (h : sR fig len s v) : (v : Int) < C64 := by
  obtain ⟨n, hn, _, hr, _⟩ := h
  exact dR_wide _ (by decide) _ n 64 _ hr hn
theorem sR_frame (fig fig' : Nat → Int64) (len len' : Nat → Int32) (s v : Nat) (h : sR fig len s v) (hf : ∀ i, i < 64 → fig' (256 * s + i) = fig (256 * s + i)) (hl : len' s = len s) : sR fig' len' s v := by
  obtain ⟨n, hn, h1, hr, ht⟩ := h
  exact ⟨n, hn, by rw [hl, h1], dR_same _ _ _ _ _ hr (fun i hi => by unfold fd; rw [hf i (by omega)]), ht⟩
theorem AL_put (fig fig' : Nat → Int64) (len len' : Nat → Int32) (V : Nat → Nat) (p x : Nat) (h : AL fig len V) (hf : FO p fig fig') (hl : LO p len len') (hp : sR fig' len' p x) : AL fig' len' (sV V p x) := by
  intro s hs
  by_cases c : s = p
  · subst c; rw [sV_e]; exact hp
  · rw [sV_n _ _ _ _ c]
    exact sR_frame _ _ _ _ _ _ (h s hs) (fun i hi => hf _ (by omega)) (hl s c)
theorem z256 : (256 : Int32).toInt = 256 := by decide
theorem z2 : (2 : Int32).toInt = 2 := by decide
theorem q_idx (p0 i : Int32) (p j : Nat) (hp : p0.toInt = p) (hi : i.toInt = j) (hp2 : p < 18) (hj : j < 256) : (256 * p0 + i).toInt = ((256 * p + j : Nat) : Int) := by
  rw [v_add4 (v_mul4 z256 hp (by omega) (by omega)) hi (by omega) (by omega)]; omega
theorem q_idx0 (p0 : Int32) (p : Nat) (hp : p0.toInt = p) (hp2 : p < 18) : (256 * p0).toInt = ((256 * p + 0 : Nat) : Int) := by
  rw [v_mul4 z256 hp (by omega) (by omega)]; omega
theorem s_trim5 (fig : Nat → Int64) (len : Nat → Int32) (p0 p1 : Int32) (p n v : Nat) (Q : (Nat → Int32) → Prop) (hp : p0.toInt = p) (hp2 : p < 18) (hn : p1.toInt = n) (hn2 : n ≤ 200)
    (hv : (v : Int) < C64) (hr : dR 2147483648 (fd fig p) n v) (hQ : ∀ len', LO p len len' → sR fig len' p v → Q len') : w_X5_trim fig len p0 p1 Q := by
  unfold w_X5_trim
  refine ⟨fun i => ∃ n : Nat, n ≤ 200 ∧ i.toInt = n ∧ dR 2147483648 (fd fig p) n v, fun i => i.toInt.toNat, ⟨n, hn2, hn, hr⟩, ?_⟩
  rintro i ⟨k, hk, hi, hrk⟩
  have fin : dT 2147483648 k v → ∀ len', len' = upd len p0.toNatClampNeg i → Q len' := by
    intro ht len' e
    subst e
    rw [q_ix p0 p hp]
    exact hQ _ (LO_u p len i) ⟨k, dT_le _ (by decide) k 64 v ht hv, by rw [upd_e, hi], hrk, ht⟩
  have pin : vp_in p0 18 := q_in p0 18 (by omega) (by omega)
  refine ⟨fun c => ?_, fun c => ?_⟩
  · rw [q_le4, z4_0, hi] at c
    have : k = 0 := by omega
    subst this
    exact ⟨pin, fin (Or.inl rfl)⟩
  · rw [q_le4, z4_0, hi] at c
    obtain ⟨m, rfl⟩ : ∃ m, k = m + 1 := ⟨k - 1, by omega⟩
    intro v4 e4
    have ev : (v4 - 1).toInt = ((256 * p + m : Nat) : Int) := by
      have := q_idx p0 i p (m + 1) hp hi hp2 (by omega)
      rw [← e4] at this
      rw [q_dec v4 _ this (by omega)]; omega
    have ef : (fig (v4 - 1).toNatClampNeg).toInt = fd fig p m := by rw [q_ix _ _ ev]; rfl
    refine ⟨q_in _ _ (by omega) (by omega), fun c2 => ⟨pin, ?_⟩, fun c2 => ?_⟩
    · rw [q_eq8, ef, z8_0] at c2
      exact fin (dR_tight _ B31 _ m v hrk c2)
    · rw [q_eq8, ef, z8_0] at c2
      intro i6 e6
      subst e6
      have e7 : (i + -1).toInt = (m : Int) := by rw [q_decm i (m + 1) hi (by omega)]; omega
      have hd := dR_down _ B31 _ m v hrk c2
      clear c2 ef
      refine ⟨⟨m, by omega, e7, hd⟩, ?_⟩
      simp only [e7, hi]; omega
theorem fd_e (f : Nat → Int64) (p j : Nat) (x : Int64) : fd (vp_updL f (256 * p + j) x) p j = x.toInt := by unfold fd; rw [updL_e]
theorem fd_n (f : Nat → Int64) (p j i : Nat) (x : Int64) (h : i ≠ j) : fd (vp_updL f (256 * p + j) x) p i = fd f p i := by unfold fd; rw [updL_n _ _ _ _ (by omega)]
theorem s_put (fig : Nat → Int64) (len : Nat → Int32) (V : Nat → Nat) (p0 : Int32) (p1 : Int64) (p v : Nat) (Q : (Nat → Int64) → (Nat → Int32) → Prop) (h : AL fig len V) (hp : p0.toInt = p) (hp2 : p < 18) (hv : p1.toInt = v) (hv2 : v < 4611686018427387904)
    (hQ : ∀ fig' len', AL fig' len' (sV V p v) → Q fig' len') : w_X5_put fig len p0 p1 Q := by
  unfold w_X5_put
  have i0 := q_idx0 p0 p hp hp2
  have i1 := q_idx p0 1 p 1 hp z4_1 hp2 (by omega)
  refine ⟨q_in _ _ (by omega) (by omega), ?_⟩
  intro f1 e1 v2 e2 v3 e3
  subst e2
  refine ⟨q_in _ _ (by omega) (by omega), ?_⟩
  intro f4 e4
  rw [q_ix _ _ i0] at e1
  rw [q_ix _ _ i1] at e4
  have p2 : (2147483648 : Int) ^ 2 = 4611686018427387904 := by decide
  have hr : dR 2147483648 (fd f4 p) 2 (v : Int) := by
    refine ⟨by omega, by rw [p2]; omega, ?_⟩
    intro i hi
    rcases (show i = 0 ∨ i = 1 by omega) with rfl | rfl
    · rw [e4, fd_n _ _ _ _ _ (by decide), e1, fd_e, q_and31, hv]
      unfold dd; simp only [Int.pow_zero, Int.ediv_one]
    · rw [e4, fd_e, e3, q_and31, q_shr31, hv]
      unfold dd; rw [show (2147483648 : Int) ^ 1 = 2147483648 by decide]
  have p64 : (2147483648 : Int) ^ 2 ≤ 2147483648 ^ 64 := dP_mono _ (by decide) 2 64 (by omega)
  have vc : (v : Int) < C64 := Int.lt_of_lt_of_le hr.2.1 p64
  clear p64 p2
  refine s_trim5 f4 len p0 2 p 2 v _ hp hp2 z2 (by omega) vc hr ?_
  intro len' hl hs
  refine hQ _ _ (AL_put fig f4 len len' V p v h (FO_t p _ f1 _ ?_ ?_) hl hs)
  · rw [e1]; exact FO_u p 0 fig _ (by omega)
  · rw [e4]; exact FO_u p 1 f1 _ (by omega)
theorem s_copy (fig : Nat → Int64) (len : Nat → Int32) (V : Nat → Nat) (p0 p1 : Int32) (p p' : Nat) (Q : (Nat → Int64) → (Nat → Int32) → Prop) (h : AL fig len V) (hp : p0.toInt = p) (hp2 : p < 18) (hp' : p1.toInt = p') (hp2' : p' < 18) (hne : p ≠ p')
    (hQ : ∀ fig' len', AL fig' len' (sV V p (V p')) → Q fig' len') : w_X5_copy fig len p0 p1 Q := by
  unfold w_X5_copy
  obtain ⟨n, hn, hl, hr, ht⟩ := h p' hp2'
  have pin : vp_in p0 18 := q_in p0 18 (by omega) (by omega)
  have pin' : vp_in p1 18 := q_in p1 18 (by omega) (by omega)
  have ix' := q_ix p1 p' hp'
  refine ⟨fun i f => ∃ j : Nat, j ≤ n ∧ i.toInt = j ∧ FO p fig f ∧ (∀ m, m < j → fd f p m = fd fig p' m),
    fun i _ => (100 - i.toInt).toNat, ⟨0, by omega, by decide, FO_r p fig, fun m hm => absurd hm (by omega)⟩, ?_⟩
  rintro i f ⟨j, hj, hi, hF, hd⟩
  refine ⟨pin', fun c => ?_, fun c => ?_⟩
  · rw [q_le4, ix', hl, hi] at c
    have : j = n := by omega
    subst this
    refine ⟨pin', pin, ?_⟩
    rintro len4 rfl
    rw [q_ix p0 p hp, ix']
    exact hQ _ _ (AL_put fig f len _ V p (V p') h hF (LO_u p len _) ⟨j, hn, by rw [upd_e, hl], dR_same _ _ _ _ _ hr hd, ht⟩)
  · rw [q_le4, ix', hl, hi] at c
    intro v5 e5 v6 e6
    have i5 := q_idx p0 i p j hp hi hp2 (by omega)
    have i6 := q_idx p1 i p' j hp' hi hp2' (by omega)
    rw [← e5] at i5
    rw [← e6] at i6
    refine ⟨q_in _ _ (by omega) (by omega), q_in _ _ (by omega) (by omega), ?_⟩
    intro f7 e7 i8 e8
    subst e8
    rw [q_ix _ _ i5, q_ix _ _ i6] at e7
    refine ⟨⟨j + 1, by omega, q_inc i j hi (by omega), FO_t p _ f _ hF (by rw [e7]; exact FO_u p j f _ (by omega)), ?_⟩, ?_⟩
    · intro m hm
      by_cases cm : m = j
      · subst cm
        rw [e7, fd_e]
        show (f (256 * p' + m)).toInt = (fig (256 * p' + m)).toInt
        rw [hF _ (by omega)]
      · rw [e7, fd_n _ _ _ _ _ cm]; exact hd m (by omega)
    · simp only [q_inc i j hi (by omega), hi]; omega
theorem s_take (fig : Nat → Int64) (len : Nat → Int32) (top : Nat → Int64) (p0 p1 : Int32) (p n v : Nat) (Q : (Nat → Int64) → (Nat → Int32) → Prop) (hp : p0.toInt = p) (hp2 : p < 18) (hn : p1.toInt = n) (hn2 : n ≤ 200)
    (hv : (v : Int) < C64) (hr : dR 2147483648 (tL top) n v) (hQ : ∀ fig' len', FO p fig fig' → LO p len len' → sR fig' len' p v → Q fig' len') : w_X5_take fig len top p0 p1 Q := by
  unfold w_X5_take
  refine ⟨fun i f => ∃ j : Nat, j ≤ n ∧ i.toInt = j ∧ FO p fig f ∧ (∀ m, m < j → fd f p m = tL top m),
    fun i _ => (300 - i.toInt).toNat, ⟨0, by omega, by decide, FO_r p fig, fun m hm => absurd hm (by omega)⟩, ?_⟩
  rintro i f ⟨j, hj, hi, hF, hd⟩
  refine ⟨fun c => ?_, fun c => ?_⟩
  · rw [q_le4, hn, hi] at c
    have : j = n := by omega
    subst this
    exact s_trim5 f len p0 p1 p j v _ hp hp2 hn hn2 hv (dR_same _ _ _ _ _ hr hd) (fun len' h1 h2 => hQ _ _ hF h1 h2)
  · rw [q_le4, hn, hi] at c
    intro v5 e5
    have i5 := q_idx p0 i p j hp hi hp2 (by omega)
    rw [← e5] at i5
    refine ⟨q_in _ _ (by omega) (by omega), q_in _ _ (by omega) (by omega), ?_⟩
    intro f7 e7 i8 e8
    subst e8
    rw [q_ix _ _ i5, q_ix _ _ hi] at e7
    refine ⟨⟨j + 1, by omega, q_inc i j hi (by omega), FO_t p _ f _ hF (by rw [e7]; exact FO_u p j f _ (by omega)), ?_⟩, ?_⟩
    · intro m hm
      by_cases cm : m = j
      · subst cm; rw [e7, fd_e]; rfl
      · rw [e7, fd_n _ _ _ _ _ cm]; exact hd m (by omega)
    · simp only [q_inc i j hi (by omega), hi]; omega
theorem s_fig (fig : Nat → Int64) (len : Nat → Int32) (p0 p1 : Int32) (p j v : Nat) (Q : Int64 → Prop) (hp : p0.toInt = p) (hp2 : p < 18) (hj : p1.toInt = j) (hs : sR fig len p v) (hQ : ∀ r : Int64, r.toInt = dd 2147483648 v j → Q r) : w_X5_figureOf fig len p0 p1 Q := by
  unfold w_X5_figureOf
  obtain ⟨n, hn, hl, hr, ht⟩ := hs
  refine ⟨q_in p0 18 (by omega) (by omega), fun c => ?_, fun c => ?_⟩
  · rw [q_le4, q_ix p0 p hp, hl, hj] at c
    exact hQ _ (by rw [z8_0, dd_big _ _ _ hr.1 (Int.lt_of_lt_of_le hr.2.1 (dP_mono _ (by decide) n j (by omega)))])
  · rw [q_le4, q_ix p0 p hp, hl, hj] at c
    rintro v1 rfl
    have i5 := q_idx p0 p1 p j hp hj hp2 (by omega)
    refine ⟨q_in _ _ (by omega) (by omega), ?_⟩
    rw [q_ix _ _ i5]
    exact hQ _ (hr.2.2 j (by omega))
theorem s_compare (fig : Nat → Int64) (len : Nat → Int32) (p0 p1 : Int32) (p p' v w : Nat) (Q : Int32 → Prop) (hp : p0.toInt = p) (hp2 : p < 18) (hp' : p1.toInt = p') (hp2' : p' < 18) (h : sR fig len p v) (h' : sR fig len p' w)
    (h1 : w < v → Q 1) (h0 : v = w → Q 0) (hm : v < w → Q (-1)) : w_X5_compare fig len p0 p1 Q := by
  unfold w_X5_compare
  have pin : vp_in p0 18 := q_in p0 18 (by omega) (by omega)
  have pin' : vp_in p1 18 := q_in p1 18 (by omega) (by omega)
  have hs := h
  have hs' := h'
  obtain ⟨n, hn, hl, hr, ht⟩ := h
  obtain ⟨n', hn', hl', hr', ht'⟩ := h'
  have ix := q_ix p0 p hp
  have ix' := q_ix p1 p' hp'
  refine ⟨pin, pin', ?_⟩
  refine ⟨fun t => ∃ T : Nat, T ≤ 64 ∧ n ≤ T ∧ n' ≤ T ∧ t.toInt = T, ⟨fun c => ⟨pin', n', hn', ?_, by omega, by rw [ix', hl']⟩, fun c => ⟨pin, n, hn, by omega, ?_, by rw [ix, hl]⟩⟩, ?_⟩
  · rw [q_le4, ix, ix', hl, hl'] at c; omega
  · rw [q_le4, ix, ix', hl, hl'] at c; omega
  rintro t ⟨T, hT, hnT, hnT', htT⟩
  have vT := dR_wide _ (by decide) _ n T _ hr hnT
  have wT := dR_wide _ (by decide) _ n' T _ hr' hnT'
  rintro i4 ei4
  refine ⟨fun i => ∃ j : Nat, j ≤ T ∧ i.toInt = (j : Int) - 1 ∧ (v : Int) / 2147483648 ^ j = (w : Int) / 2147483648 ^ j,
    fun i => (i.toInt + 1).toNat, ⟨T, Nat.le_refl _, by rw [ei4, q_dec t T htT (by omega)], ?_⟩, ?_⟩
  · rw [Int.ediv_eq_zero_of_lt hr.1 vT, Int.ediv_eq_zero_of_lt hr'.1 wT]
  rintro i ⟨j, hj, hi, he⟩
  refine ⟨fun c => ?_, fun c => ?_⟩
  · rw [q_lt4, z4_0, hi] at c
    have : j = 0 := by omega
    subst this
    simp only [Int.pow_zero, Int.ediv_one] at he
    exact h0 (by omega)
  · rw [q_lt4, z4_0, hi] at c
    obtain ⟨m, rfl⟩ : ∃ m, j = m + 1 := ⟨j - 1, by omega⟩
    have him : i.toInt = (m : Int) := by omega
    refine s_fig fig len p0 i p m v _ hp hp2 him hs ?_
    intro r7 e7
    refine s_fig fig len p1 i p' m w _ hp' hp2' him hs' ?_
    intro r8 e8 i5 e5
    have s1 := dd_step 2147483648 B31 v m
    have s2 := dd_step 2147483648 B31 w m
    have a1 := dd_nn 2147483648 B31 v m
    have a2 := dd_lt 2147483648 B31 v m
    have a3 := dd_nn 2147483648 B31 w m
    have a4 := dd_lt 2147483648 B31 w m
    have e55 : i5.toInt = dd 2147483648 v m - dd 2147483648 w m := by rw [e5]; exact v_sub8 e7 e8 (by omega) (by omega)
    rw [he] at s1
    have hp := dPp 2147483648 B31 m
    have mono : ∀ x y : Nat, x ≤ y → (x : Int) / 2147483648 ^ m ≤ (y : Int) / 2147483648 ^ m := fun x y hxy => Int.ediv_le_ediv hp (by omega)
    refine ⟨fun c2 => ?_, fun c2 => ⟨fun c3 => ?_, fun c3 => ?_⟩⟩
    · rw [q_eq8, e55, z8_0] at c2
      intro i10 e10
      subst e10
      refine ⟨⟨m, by omega, by rw [q_decm i m him (by omega)], by rw [s1, s2]; omega⟩, ?_⟩
      simp only [q_decm i m him (by omega), hi]; omega
    · rw [q_eq8, e55, z8_0] at c2
      rw [q_le8, e55, z8_0] at c3
      apply h1
      apply Nat.lt_of_not_le; intro hle
      have := mono v w hle
      omega
    · rw [q_le8, e55, z8_0] at c3
      apply hm
      apply Nat.lt_of_not_le; intro hle
      have := mono w v hle
      omega
theorem tL_e (t : Nat → Int64) (k : Nat) (x : Int64) : tL (vp_updL t k x) k = x.toInt := by unfold tL; rw [updL_e]
theorem tL_n (t : Nat → Int64) (k j : Nat) (x : Int64) (h : j ≠ k) : tL (vp_updL t k x) j = tL t j := by unfold tL; rw [updL_n _ _ _ _ h]
theorem s_plus (fig : Nat → Int64) (len : Nat → Int32) (top : Nat → Int64) (V : Nat → Nat) (p0 p1 p2 : Int32) (p a b : Nat) (Q : (Nat → Int64) → (Nat → Int32) → (Nat → Int64) → Prop) (h : AL fig len V)
    (hp : p0.toInt = p) (hp2 : p < 18) (ha : p1.toInt = a) (ha2 : a < 18) (hb : p2.toInt = b) (hb2 : b < 18) (hc : ((V a + V b : Nat) : Int) < C64)
    (hQ : ∀ fig' len' top', AL fig' len' (sV V p (V a + V b)) → Q fig' len' top') : w_X5_plus fig len top p0 p1 p2 Q := by
  unfold w_X5_plus
  have pin : vp_in p1 18 := q_in p1 18 (by omega) (by omega)
  have pin' : vp_in p2 18 := q_in p2 18 (by omega) (by omega)
  have hs := h a ha2
  have hs' := h b hb2
  obtain ⟨n, hn, hl, hr, ht⟩ := h a ha2
  obtain ⟨n', hn', hl', hr', ht'⟩ := h b hb2
  have ix := q_ix p1 a ha
  have ix' := q_ix p2 b hb
  refine ⟨pin, pin', ?_⟩
  refine ⟨fun t => ∃ T : Nat, T ≤ 64 ∧ n ≤ T ∧ n' ≤ T ∧ t.toInt = T, ⟨fun c => ⟨pin', n', hn', ?_, by omega, by rw [ix', hl']⟩, fun c => ⟨pin, n, hn, by omega, ?_, by rw [ix, hl]⟩⟩, ?_⟩
  · rw [q_le4, ix, ix', hl, hl'] at c; omega
  · rw [q_le4, ix, ix', hl, hl'] at c; omega
  rintro t ⟨T, hT, hnT, hnT', htT⟩
  have vT := dR_wide _ (by decide) _ n T _ hr hnT
  have wT := dR_wide _ (by decide) _ n' T _ hr' hnT'
  clear ht ht' hr hr' hl hl' hn hn'
  rintro i4 ei4
  have e4 : i4.toInt = ((T + 1 : Nat) : Int) := by rw [ei4]; exact q_inc t T htT (by omega)
  generalize V a = v at *
  generalize V b = w at *
  have ew : ((v + w : Nat) : Int) = (v : Int) * 1 + (w : Int) * 1 + 0 := by omega
  refine ⟨fun i c tp => ∃ j : Nat, j ≤ T + 1 ∧ i.toInt = j ∧ c.toInt = dc 2147483648 v w 1 1 0 j ∧ (∀ m, m < j → tL tp m = dd 2147483648 ((v + w : Nat) : Int) m),
    fun i _ _ => (300 - i.toInt).toNat, ⟨0, by omega, by decide, by rw [dc_0]; decide, fun m hm => absurd hm (by omega)⟩, ?_⟩
  rintro i c tp ⟨j, hj, hi, hcc, hd⟩
  refine ⟨fun c1 => ?_, fun c1 => ?_⟩
  · rw [q_le4, e4, hi] at c1
    have : j = T + 1 := by omega
    subst this
    refine s_take fig len tp p0 i4 p (T + 1) (v + w) _ hp hp2 e4 (by omega) hc ⟨by omega, ?_, hd⟩ (fun fig' len' h1 h2 h3 => hQ _ _ _ (AL_put _ _ _ _ _ _ _ h h1 h2 h3))
    rw [dPs]
    have := dPp 2147483648 B31 T
    omega
  · rw [q_le4, e4, hi] at c1
    refine s_fig fig len p1 i a j v _ ha ha2 hi hs ?_
    intro r11 e11
    refine s_fig fig len p2 i b j w _ hb hb2 hi hs' ?_
    intro r12 e12 v13 e13
    refine ⟨q_in _ _ (by omega) (by omega), ?_⟩
    intro t14 e14 i5 e5 i7 e7
    subst e7
    have a1 := dd_nn 2147483648 B31 v j
    have a2 := dd_lt 2147483648 B31 v j
    have a3 := dd_nn 2147483648 B31 w j
    have a4 := dd_lt 2147483648 B31 w j
    have cb := dc_b 2147483648 B31 v w 1 1 0 1 1 j (by omega) (by omega) (by omega) (by omega) (by omega) (by omega) (by omega) (by omega)
    have ev : v13.toInt = dd 2147483648 v j * 1 + dd 2147483648 w j * 1 + dc 2147483648 v w 1 1 0 j := by
      rw [e13, v_add8 (v_add8 e11 e12 (by omega) (by omega)) hcc (by omega) (by omega)]; omega
    have es := dc_s 2147483648 B31 v w 1 1 0 j
    have ed := dc_d 2147483648 B31 v w 1 1 0 j
    rw [← ev] at es ed
    rw [← ew] at ed
    refine ⟨⟨j + 1, by omega, q_inc i j hi (by omega), by rw [e5, q_shr31, es], ?_⟩, ?_⟩
    · intro m hm
      rw [e14, q_ix i j hi]
      by_cases cm : m = j
      · subst cm; rw [tL_e, q_and31, ed]
      · rw [tL_n _ _ _ _ cm]; exact hd m (by omega)
    · simp only [q_inc i j hi (by omega), hi]; omega
theorem s_minus (fig : Nat → Int64) (len : Nat → Int32) (top : Nat → Int64) (V : Nat → Nat) (p0 p1 p2 : Int32) (p a b : Nat) (Q : (Nat → Int64) → (Nat → Int32) → (Nat → Int64) → Prop) (h : AL fig len V)
    (hp : p0.toInt = p) (hp2 : p < 18) (ha : p1.toInt = a) (ha2 : a < 18) (hb : p2.toInt = b) (hb2 : b < 18) (hc : V b ≤ V a)
    (hQ : ∀ fig' len' top', AL fig' len' (sV V p (V a - V b)) → Q fig' len' top') : w_X5_minus fig len top p0 p1 p2 Q := by
  unfold w_X5_minus
  have pin : vp_in p1 18 := q_in p1 18 (by omega) (by omega)
  have hs := h a ha2
  have hs' := h b hb2
  have cap := sR_cap _ _ _ _ hs
  obtain ⟨n, hn, hl, hr, ht⟩ := h a ha2
  have ix := q_ix p1 a ha
  refine ⟨pin, ?_⟩
  intro i4 ei4
  have e4 : i4.toInt = n := by rw [ei4, ix, hl]
  have vT := hr.2.1
  have capc : ((V a - V b : Nat) : Int) < C64 := Int.lt_of_le_of_lt (by omega) cap
  clear cap ht hr
  generalize V a = v at *
  generalize V b = w at *
  have wT : (w : Int) < 2147483648 ^ n := by omega
  have ew : ((v - w : Nat) : Int) = (v : Int) * 1 + (w : Int) * (-1) + 0 := by omega
  refine ⟨fun i c tp => ∃ j : Nat, j ≤ n ∧ i.toInt = j ∧ (c.toInt = 0 ∨ c.toInt = 1) ∧ - c.toInt = dc 2147483648 v w 1 (-1) 0 j ∧ (∀ m, m < j → tL tp m = dd 2147483648 ((v - w : Nat) : Int) m),
    fun i _ _ => (300 - i.toInt).toNat, ⟨0, by omega, by decide, Or.inl (by decide), by rw [dc_0]; decide, fun m hm => absurd hm (by omega)⟩, ?_⟩
  rintro i c tp ⟨j, hj, hi, hc01, hcc, hd⟩
  refine ⟨fun c1 => ?_, fun c1 => ?_⟩
  · rw [q_le4, e4, hi] at c1
    have : j = n := by omega
    subst this
    refine s_take fig len tp p0 i4 p j (v - w) _ hp hp2 e4 (by omega) capc ⟨by omega, ?_, hd⟩ (fun fig' len' h1 h2 h3 => hQ _ _ _ (AL_put _ _ _ _ _ _ _ h h1 h2 h3))
    omega
  · rw [q_le4, e4, hi] at c1
    refine s_fig fig len p1 i a j v _ ha ha2 hi hs ?_
    intro r11 e11
    refine s_fig fig len p2 i b j w _ hb hb2 hi hs' ?_
    intro r12 e12 v13 e13
    refine ⟨q_in _ _ (by omega) (by omega), ?_⟩
    intro t14 e14
    have a1 := dd_nn 2147483648 B31 v j
    have a2 := dd_lt 2147483648 B31 v j
    have a3 := dd_nn 2147483648 B31 w j
    have a4 := dd_lt 2147483648 B31 w j
    have ev : v13.toInt = dd 2147483648 v j * 1 + dd 2147483648 w j * (-1) + dc 2147483648 v w 1 (-1) 0 j := by
      rw [e13, v_sub8 (v_sub8 e11 e12 (by omega) (by omega)) (rfl : c.toInt = c.toInt) (by omega) (by omega)]; omega
    have es := dc_s 2147483648 B31 v w 1 (-1) 0 j
    have ed := dc_d 2147483648 B31 v w 1 (-1) 0 j
    rw [← ev] at es ed
    rw [← ew] at ed
    have hd' : ∀ m, m < j + 1 → tL t14 m = dd 2147483648 ((v - w : Nat) : Int) m := by
      intro m hm
      rw [e14, q_ix i j hi]
      by_cases cm : m = j
      · subst cm; rw [tL_e, q_and31, ed]
      · rw [tL_n _ _ _ _ cm]; exact hd m (by omega)
    have mm : (300 - (i + 1).toInt).toNat < (300 - i.toInt).toNat := by rw [q_inc i j hi (by omega), hi]; omega
    have z81 : (1 : Int64).toInt = 1 := by decide
    refine ⟨fun c2 => ?_, fun c2 => ?_⟩
    · rw [q_le8, z8_0] at c2
      rintro i7 rfl
      exact ⟨⟨j + 1, by omega, q_inc i j hi (by omega), Or.inl z8_0, by rw [z8_0, ← es]; omega, hd'⟩, mm⟩
    · rw [q_le8, z8_0] at c2
      rintro i7 rfl
      exact ⟨⟨j + 1, by omega, q_inc i j hi (by omega), Or.inr z81, by rw [z81, ← es]; omega, hd'⟩, mm⟩
theorem dd_sh (B : Int) (hB : 0 < B) (t : Int) (j k : Nat) : dd B t (j + k) = dd B (t / B ^ j) k := by
  unfold dd
  rw [Int.ediv_ediv_of_nonneg (Int.le_of_lt (dPp B hB j)), ← Int.pow_add]
theorem dd_add (B : Int) (hB : 0 < B) (t z : Int) (j m : Nat) (h : m < j) : dd B (t + B ^ j * z) m = dd B t m := by
  apply dd_cong B hB
  obtain ⟨d, rfl⟩ := Nat.exists_eq_add_of_le (show m + 1 ≤ j by omega)
  rw [Int.pow_add, Int.mul_assoc, Int.add_mul_emod_self_left]
theorem s_times5 (fig : Nat → Int64) (len : Nat → Int32) (top : Nat → Int64) (V : Nat → Nat) (p0 p1 p2 : Int32) (p a b : Nat) (Q : (Nat → Int64) → (Nat → Int32) → (Nat → Int64) → Prop) (h : AL fig len V)
    (hp : p0.toInt = p) (hp2 : p < 18) (ha : p1.toInt = a) (ha2 : a < 18) (hb : p2.toInt = b) (hb2 : b < 18) (hc : ((V a * V b : Nat) : Int) < C64)
    (hQ : ∀ fig' len' top', AL fig' len' (sV V p (V a * V b)) → Q fig' len' top') : w_X5_times fig len top p0 p1 p2 Q := by
  unfold w_X5_times
  have pin : vp_in p1 18 := q_in p1 18 (by omega) (by omega)
  have pin' : vp_in p2 18 := q_in p2 18 (by omega) (by omega)
  obtain ⟨n, hn, hl, hr, ht⟩ := h a ha2
  obtain ⟨n', hn', hl', hr', ht'⟩ := h b hb2
  clear ht ht'
  have ix := q_ix p1 a ha
  have ix' := q_ix p2 b hb
  rw [ix, ix']
  generalize V a = v at *
  generalize V b = w at *
  have hB := B31
  refine ⟨pin, pin', ?_⟩
  intro v1 e1
  have ev1 : v1.toInt = ((n + n' : Nat) : Int) := by rw [e1, v_add4 hl hl' (by omega) (by omega)]; omega
  refine ⟨fun i tp => ∃ j : Nat, j ≤ n + n' ∧ i.toInt = j ∧ (∀ m, m < j → tL tp m = 0), fun i _ => (300 - i.toInt).toNat, ⟨0, by omega, by decide, fun m hm => absurd hm (by omega)⟩, ?_⟩
  rintro i tp ⟨j, hj, hi, hz⟩
  refine ⟨fun c => ?_, fun c => ?_⟩
  rotate_left
  · rw [q_le4, ev1, hi] at c
    refine ⟨q_in _ _ (by omega) (by omega), ?_⟩
    intro t27 e27 i28 e28
    subst e28
    refine ⟨⟨j + 1, by omega, q_inc i j hi (by omega), ?_⟩, ?_⟩
    · intro m hm
      rw [e27, q_ix i j hi]
      by_cases cm : m = j
      · subst cm; rw [tL_e, z8_0]
      · rw [tL_n _ _ _ _ cm]; exact hz m (by omega)
    · simp only [q_inc i j hi (by omega), hi]; omega
  rw [q_le4, ev1, hi] at c
  have : j = n + n' := by omega
  subst this
  refine ⟨fun i tp => ∃ j : Nat, j ≤ n ∧ i.toInt = j ∧ (∀ m, m < n + n' → tL tp m = dd 2147483648 ((v : Int) % 2147483648 ^ j * w) m), fun i _ => (300 - i.toInt).toNat, ⟨0, by omega, by decide, ?_⟩, ?_⟩
  · intro m hm
    rw [hz m hm, Int.pow_zero, Int.emod_one, Int.zero_mul, dd_0]
  rintro i5 tp6 ⟨j, hj, hi5, hd⟩
  refine ⟨pin, fun c1 => ?_, fun c1 => ?_⟩
  · rw [q_le4, hl, hi5] at c1
    have : j = n := by omega
    subst this
    have hvw : (v : Int) % 2147483648 ^ j * w = ((v * w : Nat) : Int) := by rw [Int.emod_eq_of_lt hr.1 hr.2.1]; push_cast; rfl
    rw [hvw] at hd
    refine s_take fig len tp6 p0 v1 p (j + n') (v * w) _ hp hp2 ev1 (by omega) hc ⟨by omega, ?_, hd⟩ (fun fig' len' h1 h2 h3 => hQ _ _ _ (AL_put _ _ _ _ _ _ _ h h1 h2 h3))
    rw [Int.pow_add]
    push_cast
    have x1 := Int.mul_le_mul_of_nonneg_left (Int.le_of_lt hr'.2.1) hr.1
    have x2 := Int.mul_lt_mul_of_pos_right hr.2.1 (dPp 2147483648 hB n')
    exact Int.lt_of_le_of_lt x1 x2
  rw [q_le4, hl, hi5] at c1
  have hPj := dPp 2147483648 hB j
  have hPn := dPp 2147483648 hB n'
  have x0 := dd_nn 2147483648 hB v j
  have x1 := dd_lt 2147483648 hB v j
  have r0 := Int.emod_nonneg (v : Int) (Int.ne_of_gt hPj)
  have r1 := Int.emod_lt_of_pos (v : Int) hPj
  have w0 : (0 : Int) ≤ w := hr'.1
  have w1 := hr'.2.1
  have ms := dm_s 2147483648 hB v j
  have xj : ∀ k : Nat, k < n → (fig (256 * a + k)).toInt = dd 2147483648 v k := fun k hk => hr.2.2 k hk
  have yk : ∀ k : Nat, k < n' → (fig (256 * b + k)).toInt = dd 2147483648 w k := fun k hk => hr'.2.2 k hk
  obtain ⟨T, hT⟩ : ∃ T, T = (v : Int) % 2147483648 ^ j * w := ⟨_, rfl⟩
  obtain ⟨X, hX⟩ : ∃ X, X = dd 2147483648 (v : Int) j := ⟨_, rfl⟩
  have hT' : (v : Int) % 2147483648 ^ (j + 1) * w = T + 2147483648 ^ j * (X * w) := by rw [ms, Int.add_mul, ← hT, ← hX, Int.mul_assoc]
  rw [← hX] at x0 x1
  rw [← hT] at hd
  have T0 : 0 ≤ T := by rw [hT]; exact Int.mul_nonneg r0 w0
  have T1 : T < 2147483648 ^ j * 2147483648 ^ n' := by
    rw [hT]
    have y1 := Int.mul_le_mul_of_nonneg_left (Int.le_of_lt w1) r0
    have y2 := Int.mul_lt_mul_of_pos_right r1 hPn
    omega
  obtain ⟨U, hU⟩ : ∃ U, U = T / 2147483648 ^ j := ⟨_, rfl⟩
  have U0 : 0 ≤ U := by rw [hU]; exact Int.ediv_nonneg T0 (Int.le_of_lt hPj)
  have U1 : U < 2147483648 ^ n' := by rw [hU]; apply Int.ediv_lt_of_lt_mul hPj; rw [Int.mul_comm]; exact T1
  have hU' : (T + 2147483648 ^ j * (X * w)) / 2147483648 ^ j = U + X * w := by rw [Int.add_mul_ediv_left _ _ (Int.ne_of_gt hPj), hU]
  have eU : ∀ k, dd 2147483648 T (j + k) = dd 2147483648 U k := fun k => by rw [dd_sh _ hB, hU]
  have eU' : ∀ k, dd 2147483648 (T + 2147483648 ^ j * (X * w)) (j + k) = dd 2147483648 (U * 1 + w * X + 0) k := fun k => by
    rw [dd_sh _ hB, hU', Int.mul_one, Int.add_zero, Int.mul_comm X]
  refine ⟨fun i8 c tp => ∃ k : Nat, k ≤ n' ∧ i8.toInt = k ∧ c.toInt = dc 2147483648 U w 1 X 0 k ∧ (∀ m, m < j + k → tL tp m = dd 2147483648 (T + 2147483648 ^ j * (X * w)) m) ∧ (∀ m, j + k ≤ m → m < n + n' → tL tp m = dd 2147483648 T m),
    fun i _ _ => (300 - i.toInt).toNat, ⟨0, by omega, by decide, by rw [dc_0]; decide, ?_, fun m _ hm => hd m hm⟩, ?_⟩
  · intro m hm
    rw [dd_add _ hB _ _ j m (by omega)]; exact hd m (by omega)
  rintro i8 c tp12 ⟨k, hk, hi8, hcc, hlo, hhi⟩
  have cb := dc_b 2147483648 hB U w 1 X 0 1 2147483648 k (by omega) (by omega) (by omega) (by omega) (by omega) (by omega) (by omega) (by omega)
  have cn := dc_nn 2147483648 hB U w 1 X 0 k (by omega) x0 (by omega)
  refine ⟨pin', fun c2 => ?_, fun c2 => ?_⟩
  · rw [q_le4, hl', hi8] at c2
    have : k = n' := by omega
    subst this
    refine ⟨pin', ?_⟩
    intro v14 e14
    have ev14 : v14.toInt = ((j + k : Nat) : Int) := by rw [e14, v_add4 hi5 hl' (by omega) (by omega)]; omega
    refine ⟨q_in _ _ (by omega) (by omega), ?_⟩
    intro t15 e15 i16 e16
    subst e16
    refine ⟨⟨j + 1, by omega, q_inc i5 j hi5 (by omega), ?_⟩, ?_⟩
    · intro m hm
      rw [hT', e15, q_ix _ _ ev14]
      by_cases cm : m = j + k
      · subst cm
        rw [tL_e, hcc, eU', dc_end _ _ _ _ _ _ _ U0 U1 w0 w1]
        symm
        have z0 : 0 ≤ w * X := Int.mul_nonneg w0 x0
        apply dd_top _ hB _ _ (by omega)
        rw [dPs]
        have y1 := Int.mul_le_mul_of_nonneg_left (show X ≤ 2147483647 by omega) w0
        omega
      · rw [tL_n _ _ _ _ cm]
        rcases Nat.lt_or_ge m (j + k) with cm2 | cm2
        · exact hlo m cm2
        · rw [hhi m cm2 hm]
          have pw : (2147483648 : Int) ^ (j + 1 + k) ≤ 2147483648 ^ m := dP_mono _ (by decide) _ _ (by omega)
          have pw2 : (2147483648 : Int) ^ (j + k) ≤ 2147483648 ^ m := dP_mono _ (by decide) _ _ (by omega)
          rw [Int.pow_add] at pw2
          rw [dd_big _ _ _ T0 (by omega), dd_big]
          · have := Int.mul_nonneg (Int.le_of_lt hPj) (Int.mul_nonneg x0 w0)
            omega
          · rw [← hT']
            have pw3 : (2147483648 : Int) ^ (j + 1 + k) = 2147483648 ^ (j + 1) * 2147483648 ^ k := Int.pow_add _ _ _
            have q1 := Int.emod_nonneg (v : Int) (Int.ne_of_gt (dPp 2147483648 hB (j + 1)))
            have q2 := Int.emod_lt_of_pos (v : Int) (dPp 2147483648 hB (j + 1))
            have y1 := Int.mul_le_mul_of_nonneg_left (Int.le_of_lt w1) q1
            have y2 := Int.mul_lt_mul_of_pos_right q2 hPn
            omega
    · simp only [q_inc i5 j hi5 (by omega), hi5]; omega
  · rw [q_le4, hl', hi8] at c2
    intro v17 e17
    have i17 := q_idx p1 i5 a j ha hi5 ha2 (by omega)
    rw [← e17] at i17
    refine ⟨q_in _ _ (by omega) (by omega), ?_⟩
    intro v18 e18
    have i18 := q_idx p2 i8 b k hb hi8 hb2 (by omega)
    rw [← e18] at i18
    refine ⟨q_in _ _ (by omega) (by omega), ?_⟩
    intro v19 e19
    have ijk : (i5 + i8).toInt = ((j + k : Nat) : Int) := by rw [v_add4 hi5 hi8 (by omega) (by omega)]; omega
    refine ⟨q_in _ _ (by omega) (by omega), ?_⟩
    intro v20 e20 i9 e9
    refine ⟨q_in _ _ (by omega) (by omega), ?_⟩
    intro t22 e22 i23 e23 i24 e24
    subst e24
    have a3 := dd_nn 2147483648 hB w k
    have a4 := dd_lt 2147483648 hB w k
    have a5 := dd_nn 2147483648 hB U k
    have a6 := dd_lt 2147483648 hB U k
    have fx : (fig v17.toNatClampNeg).toInt = X := by rw [q_ix _ _ i17, hX]; exact xj j (by omega)
    have fy : (fig v18.toNatClampNeg).toInt = dd 2147483648 w k := by rw [q_ix _ _ i18]; exact yk k (by omega)
    have ft : (tp12 (i5 + i8).toNatClampNeg).toInt = dd 2147483648 U k := by rw [q_ix _ _ ijk, ← eU]; exact hhi _ (by omega) (by omega)
    have m0 := Int.mul_nonneg x0 a3
    have m1 := Int.mul_le_mul_of_nonneg_left (show dd 2147483648 (w : Int) k ≤ 2147483647 by omega) x0
    have mc := Int.mul_comm X (dd 2147483648 (w : Int) k)
    have ev : i9.toInt = dd 2147483648 U k * 1 + dd 2147483648 w k * X + dc 2147483648 U w 1 X 0 k := by
      rw [e9, e20, e19, v_add8 (v_add8 (v_mul8 fx fy (by omega) (by omega)) ft (by omega) (by omega)) hcc (by omega) (by omega)]; omega
    have es := dc_s 2147483648 hB U w 1 X 0 k
    have ed := dc_d 2147483648 hB U w 1 X 0 k
    rw [← ev] at es ed
    rw [← eU'] at ed
    refine ⟨⟨k + 1, by omega, q_inc i8 k hi8 (by omega), by rw [e23, q_shr31, es], ?_, ?_⟩, ?_⟩
    · intro m hm
      rw [e22, q_ix _ _ ijk]
      by_cases cm : m = j + k
      · subst cm; rw [tL_e, q_and31, ed]
      · rw [tL_n _ _ _ _ cm]; exact hlo m (by omega)
    · intro m hm hm2
      rw [e22, q_ix _ _ ijk, tL_n _ _ _ _ (by omega)]; exact hhi m (by omega) hm2
    · simp only [q_inc i8 k hi8 (by omega), hi8]; omega
theorem hv_dd (v : Int) (m : Nat) : dd 2147483648 (v / 2) m = dd 2147483648 v m / 2 + dd 2147483648 v (m + 1) % 2 * 1073741824 := by
  unfold dd
  have e1 : v / 2 / 2147483648 ^ m = v / 2147483648 ^ m / 2 := by
    rw [Int.ediv_ediv_of_nonneg (by decide), Int.mul_comm, ← Int.ediv_ediv_of_nonneg (Int.le_of_lt (dPp _ B31 m))]
  have e2 : v / 2147483648 ^ (m + 1) = v / 2147483648 ^ m / 2147483648 := by rw [dPs, Int.ediv_ediv_of_nonneg (Int.le_of_lt (dPp _ B31 m))]
  rw [e1, e2]
  generalize v / 2147483648 ^ m = y
  omega
theorem q_sm (s : Int64) (r : Nat) (h : s.toInt = r) (hr : r < 64) : (s.toBitVec.smod 64).toNat = r := by
  have n := q_toNat8 s (by omega)
  have e : s.toBitVec = BitVec.ofNat 64 r := by
    apply BitVec.eq_of_toNat_eq
    rw [BitVec.toNat_ofNat, Nat.mod_eq_of_lt (by omega)]; omega
  rw [e]
  have : ∀ x : Fin 64, ((BitVec.ofNat 64 x.val).smod 64).toNat = x.val := by decide
  exact this ⟨r, hr⟩
theorem q_sh (x : Int32) (r : Nat) (h : x.toInt = r) (hr : r < 64) : ((x.toInt64 &&& 63 : Int64).toBitVec.smod 64).toNat = r := by
  apply q_sm _ _ _ hr
  rw [q_and8 x.toInt64 63 6 (by decide) (by decide), q_48, h]; omega
theorem s_halve (fig : Nat → Int64) (len : Nat → Int32) (V : Nat → Nat) (p0 : Int32) (p : Nat) (Q : (Nat → Int64) → (Nat → Int32) → Prop) (h : AL fig len V)
    (hp : p0.toInt = p) (hp2 : p < 18) (hQ : ∀ fig' len', AL fig' len' (sV V p (V p / 2)) → Q fig' len') : w_X5_halve fig len p0 Q := by
  unfold w_X5_halve
  have cap := sR_cap _ _ _ _ (h p hp2)
  have capc : ((V p / 2 : Nat) : Int) < C64 := Int.lt_of_le_of_lt (by omega) cap
  clear cap
  obtain ⟨n, hn, hl, hr, ht⟩ := h p hp2
  clear ht
  have ix := q_ix p0 p hp
  have pin : vp_in p0 18 := q_in p0 18 (by omega) (by omega)
  rw [ix]
  generalize V p = v at *
  have ev2 : ((v / 2 : Nat) : Int) = (v : Int) / 2 := rfl
  refine ⟨pin, ?_⟩
  intro v1 e1
  refine ⟨fun i c f => ∃ j : Nat, j ≤ n ∧ i.toInt = (j : Int) - 1 ∧ c.toInt = dd 2147483648 v j % 2 ∧ FO p fig f ∧ (∀ m, j ≤ m → m < n → fd f p m = dd 2147483648 ((v : Int) / 2) m) ∧ (∀ m, m < j → fd f p m = dd 2147483648 v m),
    fun i _ _ => (i.toInt + 1).toNat, ⟨n, Nat.le_refl _, by rw [e1, q_dec _ n hl (by omega)], ?_, FO_r p fig, fun m h1 h2 => absurd h1 (by omega), hr.2.2⟩, ?_⟩
  · rw [dd_big _ _ n hr.1 hr.2.1, z8_0]; rfl
  rintro i c f ⟨j, hj, hi, hc, hF, hhi, hlo⟩
  refine ⟨fun c1 => ?_, fun c1 => ?_⟩
  · rw [q_lt4, z4_0, hi] at c1
    refine ⟨pin, ?_⟩
    refine s_trim5 f len p0 _ p n (v / 2) _ hp hp2 hl (by omega) capc ⟨by omega, by rw [ev2]; have := hr.2.1; omega, fun m hm => by rw [ev2]; exact hhi m (by omega) hm⟩ ?_
    intro len' h1 h2
    exact hQ _ _ (AL_put _ _ _ _ _ _ _ h hF h1 h2)
  · rw [q_lt4, z4_0, hi] at c1
    obtain ⟨m, rfl⟩ : ∃ m, j = m + 1 := ⟨j - 1, by omega⟩
    have him : i.toInt = (m : Int) := by omega
    intro v7 e7
    have i7 := q_idx p0 i p m hp him hp2 (by omega)
    rw [← e7] at i7
    refine ⟨q_in _ _ (by omega) (by omega), ?_⟩
    intro i5 e5 v9 e9 v10 e10
    have i9 := q_idx p0 i p m hp him hp2 (by omega)
    rw [← e9] at i9
    refine ⟨q_in _ _ (by omega) (by omega), ?_⟩
    intro f11 e11 i12 e12 i13 e13
    subst e13
    rw [q_ix _ _ i9] at e11
    have a1 := dd_nn 2147483648 B31 v m
    have a2 := dd_lt 2147483648 B31 v m
    have e55 : i5.toInt = dd 2147483648 v m := by rw [e5, q_ix _ _ i7]; exact hlo m (by omega)
    have ec : (c <<< ((30 : Int32).toInt64 &&& 63)).toInt = 2 ^ 30 * (dd 2147483648 v (m + 1) % 2) := by
      rw [q_shl8 c _ 30 q_s30 (by rw [hc]; omega) (by rw [hc]; omega), hc]; omega
    have es : (i5 >>> ((1 : Int32).toInt64 &&& 63)).toInt = dd 2147483648 v m / 2 := by rw [q_shr1, e55]
    have e100 : v10.toInt = dd 2147483648 ((v : Int) / 2) m := by
      rw [e10, Int64.or_comm, q_or8 _ _ 30 (dd 2147483648 v (m + 1) % 2) (by omega) ec (by rw [es]; omega) (by rw [es]; omega) (by rw [es, ec]; omega), ec, es, hv_dd]; omega
    refine ⟨⟨m, by omega, by rw [q_decm i m him (by omega)], by rw [e12, q_and1, e55], FO_t p _ f _ hF (by rw [e11]; exact FO_u p m f _ (by omega)), ?_, ?_⟩, ?_⟩
    · intro x hx hx2
      rw [e11]
      by_cases cm : x = m
      · subst cm; rw [fd_e, e100]
      · rw [fd_n _ _ _ _ _ cm]; exact hhi x (by omega) hx2
    · intro x hx
      rw [e11, fd_n _ _ _ _ _ (by omega)]; exact hlo x (by omega)
    · simp only [q_decm i m him (by omega), hi]; omega
theorem ddN (v i : Nat) : dd 2147483648 (v : Int) i = ((v / 2147483648 ^ i % 2147483648 : Nat) : Int) := by
  unfold dd; rw [Int.natCast_emod, Int.natCast_ediv, Int.natCast_pow]; rfl
theorem B2p (w : Nat) : 2147483648 ^ w = 2 ^ (31 * w) := by rw [Nat.pow_mul]
theorem bit_at (x w r : Nat) (hr : r < 31) : x / 2147483648 ^ w % 2147483648 / 2 ^ r % 2 = x / 2 ^ (31 * w + r) % 2 := by
  have e1 : 2147483648 = 2 ^ r * 2 ^ (31 - r) := by rw [← Nat.pow_add]; have : r + (31 - r) = 31 := by omega
                                                    rw [this]
  have e2 : x / 2 ^ (31 * w + r) = x / 2147483648 ^ w / 2 ^ r := by rw [Nat.pow_add, ← Nat.div_div_eq_div_mul, B2p]
  rw [e2]
  generalize x / 2147483648 ^ w = y
  have e3 : y % 2147483648 / 2 ^ r = y / 2 ^ r % 2 ^ (31 - r) := by
    have := Nat.mod_mul_right_div_self y (2 ^ r) (2 ^ (31 - r))
    rw [← e1] at this; exact this
  rw [e3]
  obtain ⟨d, hd⟩ : ∃ d, 31 - r = d + 1 := ⟨30 - r, by omega⟩
  rw [hd, Nat.pow_succ, Nat.mod_mul_left_mod]
theorem bit_set (q w r k : Nat) (hr : r < 31) : (q * 2 ^ (31 * w + r + 1) + 2 ^ (31 * w + r)) / 2147483648 ^ k % 2147483648
    = q * 2 ^ (31 * w + r + 1) / 2147483648 ^ k % 2147483648 + (if k = w then 2 ^ r else 0) := by
  have hp : 0 < 2147483648 ^ w := Nat.pow_pos (by decide)
  have e1 : q * 2 ^ (31 * w + r + 1) = 2147483648 ^ w * (q * 2 ^ (r + 1)) := by
    rw [B2p, Nat.add_assoc, Nat.pow_add]; ac_rfl
  have e2 : 2 ^ (31 * w + r) = 2147483648 ^ w * 2 ^ r := by rw [B2p, Nat.pow_add]
  rw [e1, e2, ← Nat.mul_add]
  have key : ∀ z : Nat, q * 2 ^ (r + 1) / 2147483648 = z → (q * 2 ^ (r + 1) + 2 ^ r) / 2147483648 = z ∧ (q * 2 ^ (r + 1) + 2 ^ r) % 2147483648 = q * 2 ^ (r + 1) % 2147483648 + 2 ^ r := by
    intro z hz
    obtain ⟨d, hd⟩ : ∃ d, r + 1 + d = 31 := ⟨30 - r, by omega⟩
    have e3 : 2147483648 = 2 ^ (r + 1) * 2 ^ d := by rw [← Nat.pow_add, hd]
    have p1 : 0 < 2 ^ r := Nat.pow_pos (by decide)
    have p2 : 2 ^ (r + 1) = 2 ^ r + 2 ^ r := by rw [Nat.pow_succ]; omega
    have dm := Nat.mod_add_div (q * 2 ^ (r + 1)) 2147483648
    have hm : q * 2 ^ (r + 1) % 2147483648 = 2 ^ (r + 1) * (q % 2 ^ d) := by
      rw [e3, Nat.mul_comm q, Nat.mul_mod_mul_left]
    have hlt : q % 2 ^ d + 1 ≤ 2 ^ d := Nat.mod_lt _ (Nat.pow_pos (by decide))
    have hle := Nat.mul_le_mul_left (2 ^ (r + 1)) hlt
    rw [← e3, Nat.mul_add, Nat.mul_one, ← hm] at hle
    clear hm hlt e1
    generalize q * 2 ^ (r + 1) = A at *
    rw [p2] at hle
    omega
  obtain ⟨k1, k2⟩ := key _ rfl
  rcases Nat.lt_trichotomy k w with c | c | c
  · rw [if_neg (by omega)]
    obtain ⟨d, rfl⟩ : ∃ d, w = k + 1 + d := ⟨w - k - 1, by omega⟩
    have e4 : ∀ z : Nat, 2147483648 ^ (k + 1 + d) * z / 2147483648 ^ k % 2147483648 = 0 := by
      intro z
      have : 2147483648 ^ (k + 1 + d) * z = 2147483648 ^ k * (2147483648 * (2147483648 ^ d * z)) := by rw [Nat.pow_add, Nat.pow_succ]; ac_rfl
      rw [this, Nat.mul_div_cancel_left _ (Nat.pow_pos (by decide)), Nat.mul_mod_right]
    rw [e4, e4]
  · subst c
    rw [if_pos rfl, Nat.mul_div_cancel_left _ hp, Nat.mul_div_cancel_left _ hp, k2]
  · rw [if_neg (by omega)]
    obtain ⟨d, rfl⟩ : ∃ d, k = w + 1 + d := ⟨k - w - 1, by omega⟩
    have e4 : ∀ z : Nat, 2147483648 ^ w * z / 2147483648 ^ (w + 1 + d) = z / 2147483648 / 2147483648 ^ d := by
      intro z
      have : 2147483648 ^ (w + 1 + d) = 2147483648 ^ w * (2147483648 * 2147483648 ^ d) := by rw [Nat.pow_add, Nat.pow_succ]; ac_rfl
      rw [this, Nat.mul_div_mul_left _ _ hp, Nat.div_div_eq_div_mul]
    rw [e4, e4, k1]; exact (Nat.add_zero _).symm
theorem divm (x y m : Nat) (hy : 0 < y) : (x / 2 ^ m = 2 * (x / 2 ^ (m + 1)) + x / 2 ^ m % 2) := by
  have : x / 2 ^ (m + 1) = x / 2 ^ m / 2 := by rw [Nat.pow_succ, Nat.div_div_eq_div_mul]
  rw [this]; omega
theorem s_subl (v2 : Int32) (bl t26 : Nat → Int64) (N S y : Nat) (REST : (Nat → Int64) → Prop) (ev2 : v2.toInt = N) (hN : N ≤ 200)
    (hlo : ∀ s, s < N → tL t26 s = dd 2147483648 (S : Int) s) (hbl : ∀ s, s < N → tL bl s = dd 2147483648 (y : Int) s) (hSy : y ≤ S)
    (hR : ∀ t, (∀ s, s < N → tL t s = dd 2147483648 ((S - y : Nat) : Int) s) → REST t) :
    ∃ (I : Int32 → Int64 → (Nat → Int64) → Prop) (μ : Int32 → Int64 → (Nat → Int64) → Nat), I (0 : Int32) (0 : Int64) t26 ∧ ∀ (i14_36 : Int32) (i12_37 : Int64) (top_38 : Nat → Int64), I i14_36 i12_37 top_38 →
      ((v2 ≤ i14_36 → REST top_38) ∧ (¬ v2 ≤ i14_36 →
        vp_in i14_36 520 ∧
        vp_in i14_36 520 ∧
        ∀ (v_46 : Int64), v_46 = (top_38 i14_36.toNatClampNeg) - (bl i14_36.toNatClampNeg) →
        ∀ (i15_47 : Int64), i15_47 = v_46 - i12_37 →
        vp_in i14_36 520 ∧
        ∀ (top_48 : Nat → Int64), top_48 = vp_updL top_38 i14_36.toNatClampNeg (i15_47 &&& 2147483647) →
        ((0 ≤ i15_47 →
          ∀ (i14_49 : Int32), i14_49 = i14_36 + 1 →
          I i14_49 0 top_48 ∧ μ i14_49 0 top_48 < μ i14_36 i12_37 top_38
         ) ∧ (¬ 0 ≤ i15_47 →
          ∀ (i14_50 : Int32), i14_50 = i14_36 + 1 →
          I i14_50 1 top_48 ∧ μ i14_50 1 top_48 < μ i14_36 i12_37 top_38
         )))) := by
  have hB := B31
  have z81 : (1 : Int64).toInt = 1 := by decide
  have ew : ((S - y : Nat) : Int) = (S : Int) * 1 + (y : Int) * (-1) + 0 := by omega
  refine ⟨fun i c tp => ∃ k : Nat, k ≤ N ∧ i.toInt = k ∧ (c.toInt = 0 ∨ c.toInt = 1) ∧ - c.toInt = dc 2147483648 S y 1 (-1) 0 k ∧ (∀ s, s < k → tL tp s = dd 2147483648 ((S - y : Nat) : Int) s) ∧ (∀ s, k ≤ s → tL tp s = tL t26 s),
      fun i _ _ => (300 - i.toInt).toNat, ⟨0, by omega, by decide, Or.inl (by decide), by rw [dc_0]; decide, fun s hs => absurd hs (by omega), fun s _ => rfl⟩, ?_⟩
  rintro i36 c37 t38 ⟨k', hk', hi36, hc01, hc37, hlo2, hhi2⟩
  refine ⟨fun c36 => ?_, fun c36 => ?_⟩
  · rw [q_le4, ev2, hi36] at c36
    have : k' = N := by omega
    subst this
    exact hR _ hlo2
  · rw [q_le4, ev2, hi36] at c36
    have d0 := dd_nn 2147483648 hB S k'
    have d1 := dd_lt 2147483648 hB S k'
    have d2 := dd_nn 2147483648 hB y k'
    have d3 := dd_lt 2147483648 hB y k'
    have fS : (t38 i36.toNatClampNeg).toInt = dd 2147483648 S k' := by
      rw [q_ix i36 k' hi36]
      show tL t38 k' = _
      rw [hhi2 k' (by omega)]; exact hlo k' (by omega)
    have fY : (bl i36.toNatClampNeg).toInt = dd 2147483648 y k' := by rw [q_ix i36 k' hi36]; exact hbl k' (by omega)
    refine ⟨q_in _ _ (by omega) (by omega), q_in _ _ (by omega) (by omega), ?_⟩
    intro v46 e46 i47 e47
    refine ⟨q_in _ _ (by omega) (by omega), ?_⟩
    intro t48 e48
    have ev : i47.toInt = dd 2147483648 S k' * 1 + dd 2147483648 y k' * (-1) + dc 2147483648 S y 1 (-1) 0 k' := by
      rw [e47, e46, v_sub8 (v_sub8 fS fY (by omega) (by omega)) (rfl : c37.toInt = c37.toInt) (by omega) (by omega)]; omega
    clear fS fY
    have es := dc_s 2147483648 hB S y 1 (-1) 0 k'
    have ed := dc_d 2147483648 hB S y 1 (-1) 0 k'
    rw [← ev] at es ed
    rw [← ew] at ed
    have hd' : ∀ s, s < k' + 1 → tL t48 s = dd 2147483648 ((S - y : Nat) : Int) s := by
      intro s hs
      rw [e48, q_ix i36 k' hi36]
      by_cases cm : s = k'
      · subst cm; rw [tL_e, q_and31, ed]
      · rw [tL_n _ _ _ _ cm]; exact hlo2 s (by omega)
    have hh' : ∀ s, k' + 1 ≤ s → tL t48 s = tL t26 s := by
      intro s hs
      rw [e48, q_ix i36 k' hi36, tL_n _ _ _ _ (by omega)]; exact hhi2 s (by omega)
    have mm : (300 - (i36 + 1).toInt).toNat < (300 - i36.toInt).toNat := by rw [q_inc i36 k' hi36 (by omega), hi36]; omega
    refine ⟨fun c2 => ?_, fun c2 => ?_⟩
    · rw [q_le8, z8_0] at c2
      rintro i49 rfl
      exact ⟨⟨k' + 1, by omega, q_inc i36 k' hi36 (by omega), Or.inl z8_0, by rw [z8_0, ← es]; omega, hd', hh'⟩, mm⟩
    · rw [q_le8, z8_0] at c2
      rintro i49 rfl
      exact ⟨⟨k' + 1, by omega, q_inc i36 k' hi36 (by omega), Or.inr z81, by rw [z81, ← es]; omega, hd', hh'⟩, mm⟩
theorem s_divide (fig : Nat → Int64) (len : Nat → Int32) (top bel : Nat → Int64) (V : Nat → Nat) (p0 p1 p2 p3 : Int32) (p o a b : Nat) (Q : (Nat → Int64) → (Nat → Int32) → (Nat → Int64) → (Nat → Int64) → Prop) (h : AL fig len V)
    (hp : p0.toInt = p) (hp2 : p < 18) (ho : p1.toInt = o) (ho2 : o < 18) (ha : p2.toInt = a) (ha2 : a < 18) (hb : p3.toInt = b) (hb2 : b < 18) (hpa : p ≠ a) (hpo : p ≠ o) (hy : 0 < V b)
    (hQ : ∀ fig' len' top' bel', AL fig' len' (sV (sV V p (V a / V b)) o (V a % V b)) → Q fig' len' top' bel') : w_X5_divide fig len top bel p0 p1 p2 p3 Q := by
  unfold w_X5_divide
  have pin : vp_in p2 18 := q_in p2 18 (by omega) (by omega)
  have pin' : vp_in p3 18 := q_in p3 18 (by omega) (by omega)
  have hs' := h b hb2
  have capx := sR_cap _ _ _ _ (h a ha2)
  have capy := sR_cap _ _ _ _ (h b hb2)
  obtain ⟨n, hn, hl, hr, ht⟩ := h a ha2
  obtain ⟨n', hn', hl', hr', ht'⟩ := h b hb2
  clear ht ht'
  have ix := q_ix p2 a ha
  have ix' := q_ix p3 b hb
  rw [ix, ix']
  generalize V a = x at *
  generalize V b = y at *
  have capq : ((x / y : Nat) : Int) < C64 := Int.lt_of_le_of_lt (by have := Nat.div_le_self x y; omega) capx
  have capr : ((x % y : Nat) : Int) < C64 := Int.lt_of_le_of_lt (by have := Nat.mod_lt x hy; omega) capy
  clear capx capy
  have hB := B31
  have z31 : (31 : Int32).toInt = 31 := by decide
  refine ⟨pin, ?_⟩
  intro v1 e1
  have ev1 : v1.toInt = ((31 * n : Nat) : Int) := by rw [e1, v_mul4 z31 hl (by omega) (by omega)]; omega
  refine ⟨pin', ?_⟩
  intro v2 e2
  have ev2 : v2.toInt = ((n' + 1 : Nat) : Int) := by rw [e2]; exact q_inc _ n' hl' (by omega)
  refine ⟨fun i tp bl => ∃ j : Nat, j ≤ n' + 1 ∧ i.toInt = j ∧ (∀ m, m < j → tL tp m = 0) ∧ (∀ m, m < j → tL bl m = dd 2147483648 y m), fun i _ _ => (300 - i.toInt).toNat,
    ⟨0, by omega, by decide, fun m hm => absurd hm (by omega), fun m hm => absurd hm (by omega)⟩, ?_⟩
  rintro i tp bl ⟨j, hj, hi, hz, hbl⟩
  refine ⟨fun c => ?_, fun c => ?_⟩
  rotate_left
  · rw [q_le4, ev2, hi] at c
    refine ⟨q_in _ _ (by omega) (by omega), ?_⟩
    intro t65 e65
    refine s_fig fig len p3 i b j y _ hb hb2 hi hs' ?_
    intro r66 e66
    refine ⟨q_in _ _ (by omega) (by omega), ?_⟩
    intro b67 e67 i68 e68
    subst e68
    refine ⟨⟨j + 1, by omega, q_inc i j hi (by omega), ?_, ?_⟩, ?_⟩
    · intro m hm
      rw [e65, q_ix i j hi]
      by_cases cm : m = j
      · subst cm; rw [tL_e, z8_0]
      · rw [tL_n _ _ _ _ cm]; exact hz m (by omega)
    · intro m hm
      rw [e67, q_ix i j hi]
      by_cases cm : m = j
      · subst cm; rw [tL_e, e66]
      · rw [tL_n _ _ _ _ cm]; exact hbl m (by omega)
    · simp only [q_inc i j hi (by omega), hi]; omega
  rw [q_le4, ev2, hi] at c
  have : j = n' + 1 := by omega
  subst this
  refine ⟨pin, ?_⟩
  intro i7 e7
  have ei7 : i7.toInt = n := by rw [e7, hl]
  refine ⟨fun i f => ∃ j : Nat, j ≤ n ∧ i.toInt = j ∧ FO p fig f ∧ (∀ m, m < j → fd f p m = 0), fun i _ => (300 - i.toInt).toNat, ⟨0, by omega, by decide, FO_r p fig, fun m hm => absurd hm (by omega)⟩, ?_⟩
  rintro i8 f9 ⟨j, hj8, hi8, hF, hz9⟩
  refine ⟨fun c8 => ?_, fun c8 => ?_⟩
  rotate_left
  · rw [q_le4, ei7, hi8] at c8
    intro v61 e61
    have i61 := q_idx p0 i8 p j hp hi8 hp2 (by omega)
    rw [← e61] at i61
    refine ⟨q_in _ _ (by omega) (by omega), ?_⟩
    intro f62 e62 i63 e63
    subst e63
    rw [q_ix _ _ i61] at e62
    refine ⟨⟨j + 1, by omega, q_inc i8 j hi8 (by omega), FO_t p _ f9 _ hF (by rw [e62]; exact FO_u p j f9 _ (by omega)), ?_⟩, ?_⟩
    · intro m hm
      rw [e62]
      by_cases cm : m = j
      · subst cm; rw [fd_e, z8_0]
      · rw [fd_n _ _ _ _ _ cm]; exact hz9 m (by omega)
    · simp only [q_inc i8 j hi8 (by omega), hi8]; omega
  rw [q_le4, ei7, hi8] at c8
  have : j = n := by omega
  subst this
  intro i8' e8'
  have hxb : x < 2147483648 ^ j := by
    have := hr.2.1
    have e : ((2147483648 ^ j : Nat) : Int) = 2147483648 ^ j := Int.natCast_pow _ _
    omega
  have hyb : y < 2147483648 ^ n' := by
    have := hr'.2.1
    have e : ((2147483648 ^ n' : Nat) : Int) = 2147483648 ^ n' := Int.natCast_pow _ _
    omega
  have hx0 : x / 2 ^ (31 * j) = 0 := by rw [← B2p]; exact Nat.div_eq_of_lt hxb
  refine ⟨fun i f tp => ∃ m : Nat, m ≤ 31 * j ∧ i.toInt = (m : Int) - 1 ∧ FO p fig f ∧ (∀ k, k < j → fd f p k = ((x / 2 ^ m / y * 2 ^ m / 2147483648 ^ k % 2147483648 : Nat) : Int)) ∧ (∀ k, k < n' + 1 → tL tp k = dd 2147483648 ((x / 2 ^ m % y : Nat) : Int) k),
    fun i _ _ => (i.toInt + 1).toNat, ⟨31 * j, by omega, by rw [e8', q_dec v1 _ ev1 (by omega)], hF, ?_, ?_⟩, ?_⟩
  · intro k hk
    rw [hz9 k hk, hx0, Nat.zero_div, Nat.zero_mul, Nat.zero_div]; rfl
  · intro k hk
    rw [hz k hk, hx0, Nat.zero_mod]; exact (dd_0 _ _).symm
  rintro i12 f13 t14 ⟨m, hm, him, hF13, hq, htp⟩
  refine ⟨fun c12 => ?_, fun c12 => ?_⟩
  · rw [q_lt4, z4_0, him] at c12
    have : m = 0 := by omega
    subst this
    simp only [Nat.pow_zero, Nat.div_one, Nat.mul_one] at hq htp
    have hqr : dR 2147483648 (fd f13 p) j ((x / y : Nat) : Int) := by
      refine ⟨Int.natCast_nonneg _, ?_, fun k hk => by rw [hq k hk, ddN]⟩
      have := hr.2.1
      have := Nat.div_le_self x y
      omega
    refine s_trim5 f13 len p0 i7 p j (x / y) _ hp hp2 ei7 (by omega) capq hqr ?_
    intro len16 hL hS
    have A1 := AL_put _ _ _ _ V p (x / y) h hF13 hL hS
    refine s_take f13 len16 t14 p1 v2 o (n' + 1) (x % y) _ ho ho2 ev2 (by omega) capr ⟨by omega, ?_, htp⟩ ?_
    · have h1 := Nat.mod_lt x hy
      have h2 := hr'.2.1
      have h3 := dP_mono 2147483648 (by decide) n' (n' + 1) (by omega)
      omega
    · intro f17 l18 h1 h2 h3
      exact hQ _ _ _ _ (AL_put _ _ _ _ _ o (x % y) A1 h1 h2 h3)
  rw [q_lt4, z4_0, him] at c12
  obtain ⟨t, rfl⟩ : ∃ t, m = t + 1 := ⟨m - 1, by omega⟩
  have hi12 : i12.toInt = (t : Int) := by omega
  have ht31 : t ≤ 31 * j := by omega
  obtain ⟨id, hid⟩ : ∃ x, x = i12 + -1 := ⟨_, rfl⟩
  have hdec : id.toInt = (t : Int) - 1 := by rw [hid]; exact q_decm i12 t hi12 (by omega)
  have hmu : (id.toInt + 1).toNat < (i12.toInt + 1).toNat := by omega
  have hw : t / 31 < j := by omega
  have tw : 31 * (t / 31) + t % 31 = t := by omega
  intro v19 e19
  have ev19 : v19.toInt = ((t / 31 : Nat) : Int) := by rw [e19, v_div4 hi12 z31 (by omega) (by omega)]; rfl
  intro v20 e20
  have ev20 := q_idx p2 v19 a (t / 31) ha ev19 ha2 (by omega)
  rw [← e20] at ev20
  refine ⟨q_in _ _ (by omega) (by omega), ?_⟩
  intro v21 e21
  have ev21 : v21.toInt = ((t % 31 : Nat) : Int) := by rw [e21, v_rem4 hi12 z31 (by omega) (by omega)]; rfl
  intro v22 e22 i23 e23
  have fx : (f13 v20.toNatClampNeg).toInt = ((x / 2147483648 ^ (t / 31) % 2147483648 : Nat) : Int) := by
    rw [q_ix _ _ ev20, hF13 _ (by omega), ← ddN]; exact hr.2.2 _ hw
  have ebit : i23.toInt = ((x / 2 ^ t % 2 : Nat) : Int) := by
    have hb1 := bit_at x (t / 31) (t % 31) (by omega)
    rw [tw] at hb1
    rw [e23, q_and1, e22, q_shr8 _ _ (t % 31) (q_sh v21 _ ev21 (by omega)), fx, ← hb1]
    rw [Int.natCast_emod, Int.natCast_ediv, Int.natCast_pow]; rfl
  obtain ⟨β, hβ⟩ : ∃ β, β = x / 2 ^ t % 2 := ⟨_, rfl⟩
  rw [← hβ] at ebit
  clear fx
  have hβ2 : β < 2 := by omega
  have hdm := divm x y t hy
  rw [← hβ] at hdm
  obtain ⟨R, hR⟩ : ∃ R, R = x / 2 ^ (t + 1) % y := ⟨_, rfl⟩
  obtain ⟨q, hqq⟩ : ∃ q, q = x / 2 ^ (t + 1) / y := ⟨_, rfl⟩
  have hRy : R < y := by rw [hR]; exact Nat.mod_lt _ hy
  have hxq : x / 2 ^ t = y * (2 * q) + (2 * R + β) := by
    have := Nat.mod_add_div (x / 2 ^ (t + 1)) y
    rw [← hR, ← hqq] at this
    rw [hdm, ← this, Nat.mul_add, Nat.mul_left_comm 2 y]; omega
  rw [← hR] at htp
  rw [← hqq] at hq
  clear hdm hβ hR hqq
  -- shift
  have hP := dPp 2147483648 hB
  have ynB : (y : Int) < 2147483648 ^ n' := hr'.2.1
  have hpn : (2147483648 : Int) ^ (n' + 1) = 2147483648 ^ n' * 2147483648 := dPs _ _
  have RB : (R : Int) < 2147483648 ^ (n' + 1) := by have := hP n'; omega
  have R2B : ((2 * R + β : Nat) : Int) < 2147483648 ^ (n' + 1) := by have := hP n'; omega
  have eR2 : (R : Int) * 2 + (0 : Int) * 0 + β = ((2 * R + β : Nat) : Int) := by omega
  refine ⟨fun i c tp => ∃ k : Nat, k ≤ n' + 1 ∧ i.toInt = k ∧ c.toInt = dc 2147483648 R 0 2 0 β k ∧ (∀ s, s < k → tL tp s = dd 2147483648 ((2 * R + β : Nat) : Int) s) ∧ (∀ s, k ≤ s → s < n' + 1 → tL tp s = dd 2147483648 R s),
    fun i _ _ => (300 - i.toInt).toNat, ⟨0, by omega, by decide, by rw [dc_0, ebit], fun s hs => absurd hs (by omega), fun s _ hs => htp s hs⟩, ?_⟩
  rintro i24 c25 t26 ⟨k, hk, hi24, hc25, hlo, hhi⟩
  have z81 : (1 : Int64).toInt = 1 := by decide
  refine ⟨fun c24 => ?_, fun c24 => ?_⟩
  rotate_left
  · rw [q_le4, ev2, hi24] at c24
    have d0 := dd_nn 2147483648 hB R k
    have d1 := dd_lt 2147483648 hB R k
    have cn := dc_nn 2147483648 hB R 0 2 0 β k (by omega) (by omega) (by omega)
    have c2 : dc 2147483648 R 0 2 0 β k < 2 := by
      unfold dc
      apply Int.ediv_lt_of_lt_mul (hP k)
      have := Int.emod_lt_of_pos (R : Int) (hP k)
      omega
    have fR : (t26 i24.toNatClampNeg).toInt = dd 2147483648 R k := by rw [q_ix i24 k hi24]; exact hhi k (by omega) (by omega)
    refine ⟨q_in _ _ (by omega) (by omega), ?_⟩
    intro v54 e54 i55 e55
    refine ⟨q_in _ _ (by omega) (by omega), ?_⟩
    intro t56 e56 i57 e57 i58 e58
    subst e58
    have ev54 : v54.toInt = 2 ^ 1 * dd 2147483648 R k := by
      rw [e54, q_shl8 _ _ 1 q_s1 (by rw [fR]; omega) (by rw [fR]; omega), fR]; omega
    have ev : i55.toInt = dd 2147483648 R k * 2 + dd 2147483648 0 k * 0 + dc 2147483648 R 0 2 0 β k := by
      rw [e55, q_or8 _ _ 1 (dd 2147483648 R k) d0 ev54 (by rw [hc25]; omega) (by rw [hc25]; omega) (by rw [hc25, ev54]; omega), ev54, hc25]; omega
    have es := dc_s 2147483648 hB R 0 2 0 β k
    have ed := dc_d 2147483648 hB R 0 2 0 β k
    rw [← ev] at es ed
    rw [eR2] at ed
    refine ⟨⟨k + 1, by omega, q_inc i24 k hi24 (by omega), by rw [e57, q_shr31, es], ?_, ?_⟩, ?_⟩
    · intro s hs
      rw [e56, q_ix i24 k hi24]
      by_cases cm : s = k
      · subst cm; rw [tL_e, q_and31, ed]
      · rw [tL_n _ _ _ _ cm]; exact hlo s (by omega)
    · intro s hs hs2
      rw [e56, q_ix i24 k hi24, tL_n _ _ _ _ (by omega)]; exact hhi s (by omega) hs2
    · simp only [q_inc i24 k hi24 (by omega), hi24]; omega
  rw [q_le4, ev2, hi24] at c24
  have : k = n' + 1 := by omega
  subst this
  clear hhi hc25 c25 hz htp
  obtain ⟨S, hS⟩ : ∃ S, S = 2 * R + β := ⟨_, rfl⟩
  rw [← hS] at hlo R2B hxq
  intro i28 e28
  refine ⟨fun i => ∃ k : Nat, k ≤ n' ∧ i.toInt = k ∧ (S : Int) / 2147483648 ^ (k + 1) = (y : Int) / 2147483648 ^ (k + 1), fun i => i.toInt.toNat, ⟨n', Nat.le_refl _, by rw [e28, q_dec v2 _ ev2 (by omega)]; omega, ?_⟩, ?_⟩
  · rw [Int.ediv_eq_zero_of_lt (by omega) R2B, Int.ediv_eq_zero_of_lt (by omega) (by have := hP n'; omega)]
  rintro i29 ⟨k, hk, hi29, heq⟩
  have dS : (t26 i29.toNatClampNeg).toInt = dd 2147483648 S k := by rw [q_ix i29 k hi29]; exact hlo k (by omega)
  have dY : (bl i29.toNatClampNeg).toInt = dd 2147483648 y k := by rw [q_ix i29 k hi29]; exact hbl k (by omega)
  have s1 := dd_step 2147483648 hB S k
  have s2 := dd_step 2147483648 hB y k
  have a1 := dd_nn 2147483648 hB S k
  have a2 := dd_lt 2147483648 hB S k
  have a3 := dd_nn 2147483648 hB y k
  have a4 := dd_lt 2147483648 hB y k
  rw [heq] at s1
  have pk : vp_in i29 520 := q_in _ _ (by omega) (by omega)
  refine ⟨k = 0 ∨ dd 2147483648 (S : Int) k ≠ dd 2147483648 (y : Int) k, ⟨fun c29 => ?_, fun c29 => ⟨pk, pk, fun c30 => ?_, fun c30 => ?_⟩⟩, ?_⟩
  · rw [q_le4, z4_0, hi29] at c29
    left; omega
  · right
    rw [q_eq8, dS, dY] at c30; exact c30
  · rw [q_eq8, dS, dY] at c30
    rw [q_le4, z4_0, hi29] at c29
    rintro i32 rfl
    refine ⟨⟨k - 1, by omega, by rw [q_decm i29 k hi29 (by omega)]; omega, ?_⟩, ?_⟩
    · have : k - 1 + 1 = k := by omega
      rw [this, s1, s2, c30]
    · simp only [q_decm i29 k hi29 (by omega), hi29]; omega
  intro hJ
  have hcmp : dd 2147483648 (S : Int) k < dd 2147483648 (y : Int) k ↔ S < y := by
    constructor
    · intro hlt
      apply Nat.lt_of_not_le; intro hle
      have := Int.ediv_le_ediv (hP k) (show (y : Int) ≤ S by omega)
      omega
    · intro hlt
      rcases hJ with hJ | hJ
      · subst hJ
        simp only [Int.pow_zero, Int.ediv_one] at s1 s2
        omega
      · have := Int.ediv_le_ediv (hP k) (show (S : Int) ≤ y by omega)
        omega
  clear hJ heq s1 s2 a1 a2 a3 a4
  refine ⟨pk, pk, fun c31 => ?_, fun c31 => ?_⟩
  · rw [q_lt8, dS, dY] at c31
    clear dS dY
    have hSy : S < y := hcmp.mp c31
    have hd1 : x / 2 ^ t / y = 2 * q := by rw [hxq, Nat.mul_add_div hy, Nat.div_eq_of_lt hSy]; omega
    have hd2 : x / 2 ^ t % y = S := by rw [hxq, Nat.mul_add_mod, Nat.mod_eq_of_lt hSy]
    clear hxq
    rintro i35 e35
    rw [← hid] at e35
    subst e35
    refine ⟨⟨t, ht31, hdec, hF13, ?_, by rw [hd2]; exact hlo⟩, hmu⟩
    · intro s hs
      rw [hd1, hq s hs, Nat.pow_succ, Nat.mul_comm 2 q, Nat.mul_assoc, Nat.mul_comm 2]
  · rw [q_lt8, dS, dY] at c31
    clear dS dY
    have hSy : y ≤ S := Nat.le_of_not_lt (fun hh => c31 (hcmp.mpr hh))
    clear c31 hcmp
    have hSy2 : S - y < y := by omega
    have hxq2 : x / 2 ^ t = y * (2 * q + 1) + (S - y) := by rw [hxq, Nat.mul_add]; omega
    have hd1 : x / 2 ^ t / y = 2 * q + 1 := by rw [hxq2, Nat.mul_add_div hy, Nat.div_eq_of_lt hSy2, Nat.add_zero]
    have hd2 : x / 2 ^ t % y = S - y := by rw [hxq2, Nat.mul_add_mod, Nat.mod_eq_of_lt hSy2]
    clear hxq hxq2
    have ew : ((S - y : Nat) : Int) = (S : Int) * 1 + (y : Int) * (-1) + 0 := by omega
    refine s_subl v2 bl t26 (n' + 1) S y _ ev2 (by omega) hlo hbl hSy ?_
    intro t38 hlo2
    clear hlo hbl
    intro v40 e40
    have ev40 : v40.toInt = ((t / 31 : Nat) : Int) := by rw [e40, v_div4 hi12 z31 (by omega) (by omega)]; rfl
    intro v41 e41
    have ev41 := q_idx p0 v40 p (t / 31) hp ev40 hp2 (by omega)
    rw [← e41] at ev41
    refine ⟨q_in _ _ (by omega) (by omega), ?_⟩
    intro v42 e42
    have ev42 : v42.toInt = ((t % 31 : Nat) : Int) := by rw [e42, v_rem4 hi12 z31 (by omega) (by omega)]; rfl
    intro v43 e43
    refine ⟨q_in _ _ (by omega) (by omega), ?_⟩
    intro f44 e44 i45 e45
    rw [← hid] at e45
    subst e45
    rw [q_ix _ _ ev41] at e44 e43
    have hbs := fun s => bit_set q (t / 31) (t % 31) s (by omega)
    rw [tw] at hbs
    have eZ : (2 * q + 1) * 2 ^ t = q * 2 ^ (t + 1) + 2 ^ t := by rw [Nat.pow_succ, Nat.add_mul, Nat.one_mul, Nat.mul_comm 2 q, Nat.mul_assoc, Nat.mul_comm 2]
    have t31 : t / 31 < 256 := by omega
    refine ⟨⟨t, ht31, hdec, FO_t p _ f13 _ hF13 (by rw [e44]; exact FO_u p _ f13 _ t31), ?_, by rw [hd2]; exact hlo2⟩, hmu⟩
    · intro s hs
      rw [hd1, eZ, hbs s, e44]
      by_cases cm : s = t / 31
      · subst cm
        rw [fd_e, if_pos rfl, e43]
        have p30 : (2 : Nat) ^ (t % 31) ≤ 2 ^ 30 := Nat.pow_le_pow_right (by decide) (by omega)
        have p1i : ((2 ^ (t % 31) : Nat) : Int) = 2 ^ (t % 31) := Int.natCast_pow _ _
        have p0 : 0 < 2 ^ (t % 31) := Nat.pow_pos (by decide)
        have s1i : ((1 : Int64) <<< (v42.toInt64 &&& 63)).toInt = ((2 ^ (t % 31) : Nat) : Int) := by
          rw [q_shl8 _ _ (t % 31) (q_sh v42 _ ev42 (by omega)) (by rw [z81]; omega) (by rw [z81]; omega), z81, Int.one_mul, p1i]
        obtain ⟨g, hg⟩ : ∃ g, g = f13 (256 * p + t / 31) := ⟨_, rfl⟩
        rw [← hg]
        have f1 : g.toInt = ((q * 2 ^ (t + 1) / 2147483648 ^ (t / 31) % 2147483648 : Nat) : Int) := by rw [hg]; exact hq _ hs
        have hmul : ∃ z : Nat, q * 2 ^ (t + 1) / 2147483648 ^ (t / 31) % 2147483648 = 2 ^ (t % 31 + 1) * z := by
          obtain ⟨d, hd⟩ : ∃ d, t % 31 + 1 + d = 31 := ⟨30 - t % 31, by omega⟩
          have e3 : 2147483648 = 2 ^ (t % 31 + 1) * 2 ^ d := by rw [← Nat.pow_add, hd]
          have e5 : q * 2 ^ (t + 1) = 2147483648 ^ (t / 31) * (2 ^ (t % 31 + 1) * q) := by
            have : 2 ^ (t + 1) = 2147483648 ^ (t / 31) * 2 ^ (t % 31 + 1) := by rw [B2p, ← Nat.pow_add, ← Nat.add_assoc, tw]
            rw [this]; ac_rfl
          refine ⟨q % 2 ^ d, ?_⟩
          rw [e5, Nat.mul_div_cancel_left _ (Nat.pow_pos (by decide))]
          have := Nat.mul_mod_mul_left (2 ^ (t % 31 + 1)) q (2 ^ d)
          rw [← e3] at this; exact this
        obtain ⟨z, hz2⟩ := hmul
        have hlt := Nat.mod_lt (q * 2 ^ (t + 1) / 2147483648 ^ (t / 31)) (show 0 < 2147483648 by decide)
        have p2 : (2 : Nat) ^ (t % 31 + 1) = 2 ^ (t % 31) + 2 ^ (t % 31) := by rw [Nat.pow_succ]; omega
        have p2i : ((2 ^ (t % 31 + 1) : Nat) : Int) = 2 ^ (t % 31 + 1) := Int.natCast_pow _ _
        rw [q_or8 _ _ (t % 31 + 1) z (by omega) (by rw [f1, hz2, Int.natCast_mul, p2i]) (by rw [s1i]; omega) (by rw [s1i]; omega) (by rw [s1i, f1]; omega), f1, s1i]
        omega
      · rw [fd_n _ _ _ _ _ cm, if_neg cm]; exact hq s hs
def nv (f : Nat → Int) : Nat → Int
  | 0 => 0
  | k + 1 => nv f k + 2147483648 ^ k * f k
theorem nv_m (f : Nat → Int) (n k : Nat) (v : Int) (h : dR 2147483648 f n v) (hk : k ≤ n) : nv f k = v % 2147483648 ^ k := by
  induction k with
  | zero => simp [nv, Int.emod_one]
  | succ m ih => rw [dm_s 2147483648 B31, ← ih (by omega), ← h.2.2 m (by omega)]; rfl
def sval (fig : Nat → Int64) (len : Nat → Int32) (s : Nat) : Nat := (nv (fd fig s) ((len s).toInt.toNat)).toNat
theorem sR_val (fig : Nat → Int64) (len : Nat → Int32) (s v : Nat) (h : sR fig len s v) : sval fig len s = v := by
  obtain ⟨n, hn, hl, hr, ht⟩ := h
  unfold sval
  rw [hl, Int.toNat_natCast, nv_m _ n n v hr (Nat.le_refl n), Int.emod_eq_of_lt hr.1 hr.2.1, Int.toNat_natCast]
theorem sR_len0 (fig : Nat → Int64) (len : Nat → Int32) (s v : Nat) (h : sR fig len s v) : (len s = 0 ↔ v = 0) ∧ (len s ≤ 0 ↔ v = 0) := by
  obtain ⟨n, hn, hl, hr, ht⟩ := h
  rw [q_eq4, q_le4, hl, z4_0]
  have e : n = 0 ↔ v = 0 := by
    constructor
    · rintro rfl
      have := hr.2.1
      rw [Int.pow_zero] at this
      omega
    · rintro rfl
      rcases ht with ht | ht
      · exact ht
      · have := dPp 2147483648 B31 (n - 1)
        have := Int.lt_of_lt_of_le this ht
        exact absurd this (by decide)
  rw [← e]
  clear hr ht hl
  omega
theorem sR_par (fig : Nat → Int64) (len : Nat → Int32) (s v : Nat) (h : sR fig len s v) (hv : 0 < v) (x : Int64) (hx : x = fig (256 * s)) : (x - x / 2 * 2).toInt = ((v % 2 : Nat) : Int) := by
  obtain ⟨n, hn, hl, hr, ht⟩ := h
  have hn0 : 0 < n := by
    apply Nat.pos_of_ne_zero
    rintro rfl
    have := hr.2.1
    rw [Int.pow_zero] at this
    omega
  have e : x.toInt = dd 2147483648 v 0 := by rw [hx]; exact hr.2.2 0 hn0
  have d0 := dd_nn 2147483648 B31 v 0
  rw [v_rem8 e (show (2 : Int64).toInt = 2 by decide) d0 (by decide)]
  unfold dd
  rw [Int.pow_zero, Int.ediv_one]
  clear ht hr hl e
  omega
theorem g_two (B : Nat) (hB : B % 2 = 1) : Nat.gcd 2 B = 1 := by rw [Nat.gcd_rec, hB]; rfl
theorem g_half (A B : Nat) (hA : A % 2 = 0) (hB : B % 2 = 1) : Nat.gcd (A / 2) B = Nat.gcd A B := by
  have e : A = 2 * (A / 2) := by omega
  have := Nat.Coprime.gcd_mul_left_cancel (A / 2) (show Nat.Coprime 2 B from g_two B hB)
  rw [← e] at this; exact this.symm
theorem g_halfr (A B : Nat) (hA : A % 2 = 1) (hB : B % 2 = 0) : Nat.gcd A (B / 2) = Nat.gcd A B := by
  rw [Nat.gcd_comm, g_half B A hB hA, Nat.gcd_comm]
def gI (V0 : Nat → Nat) (fig : Nat → Int64) (len : Nat → Int32) (A B : Nat) : Prop := ∃ V, AL fig len V ∧ V 10 = A ∧ V 11 = B ∧ ∀ s, s ≠ 10 → s ≠ 11 → s ≠ 13 → V s = V0 s
theorem gI_10 (V0 : Nat → Nat) (fig : Nat → Int64) (len : Nat → Int32) (A B : Nat) (h : gI V0 fig len A B) : sR fig len 10 A := by
  obtain ⟨V, hA, e1, e2, _⟩ := h; rw [← e1]; exact hA 10 (by decide)
theorem gI_11 (V0 : Nat → Nat) (fig : Nat → Int64) (len : Nat → Int32) (A B : Nat) (h : gI V0 fig len A B) : sR fig len 11 B := by
  obtain ⟨V, hA, e1, e2, _⟩ := h; rw [← e2]; exact hA 11 (by decide)
theorem z4_10 : (10 : Int32).toInt = ((10 : Nat) : Int) := by decide
theorem z4_11 : (11 : Int32).toInt = ((11 : Nat) : Int) := by decide
theorem z4_13 : (13 : Int32).toInt = ((13 : Nat) : Int) := by decide
theorem p2_cap (k g : Nat) (h1 : 2 ^ k ≤ g) (hg : (g : Int) < C64) : k < 2000 := by
  apply Nat.lt_of_not_le; intro hk
  have h2 : 2 ^ 2000 ≤ 2 ^ k := Nat.pow_le_pow_right (by decide) hk
  have h3 : C64 < ((2 ^ 2000 : Nat) : Int) := by unfold C64; decide +kernel
  have h4 : ((2 ^ 2000 : Nat) : Int) ≤ (g : Int) := Int.ofNat_le.mpr (Nat.le_trans h2 h1)
  exact absurd (Int.lt_trans h3 (Int.lt_of_le_of_lt h4 hg)) (Int.lt_irrefl _)
theorem s_gblock (fig_11 : Nat → Int64) (len_12 : Nat → Int32) (top : Nat → Int64) (i3_10 : Int32) (V0 : Nat → Nat) (k A0 B0 g : Nat) (Q : (Nat → Int64) → (Nat → Int32) → (Nat → Int64) → Prop)
    (hk : i3_10.toInt = k) (h0 : gI V0 fig_11 len_12 A0 B0) (hA0 : 0 < A0) (hodd : A0 % 2 = 1 ∨ B0 % 2 = 1) (hg0 : 2 ^ k * Nat.gcd A0 B0 = g) (hgc : (g : Int) < C64) (hk2 : k < 2000)
    (hQ : ∀ fig' len' top' B, gI V0 fig' len' g B → Q fig' len' top') :
    ∃ (I109_18 : (Nat → Int64) → (Nat → Int32) → (Nat → Int64) → Prop) (μ109_18 : (Nat → Int64) → (Nat → Int32) → (Nat → Int64) → Nat), I109_18 fig_11 len_12 top ∧ ∀ (fig_15 : Nat → Int64) (len_16 : Nat → Int32) (top_17 : Nat → Int64), I109_18 fig_15 len_16 top_17 →
      vp_in 11 18 ∧
      (((len_16 (11 : Int32).toNatClampNeg) ≤ 0 →
        ∃ (I222_23 : Int32 → (Nat → Int64) → (Nat → Int32) → (Nat → Int64) → Prop) (μ222_23 : Int32 → (Nat → Int64) → (Nat → Int32) → (Nat → Int64) → Nat), I222_23 (0 : Int32) fig_15 len_16 top_17 ∧ ∀ (i4_19 : Int32) (fig_20 : Nat → Int64) (len_21 : Nat → Int32) (top_22 : Nat → Int64), I222_23 i4_19 fig_20 len_21 top_22 →
          ((i3_10 ≤ i4_19 →
            Q fig_20 len_21 top_22
           ) ∧ (¬ i3_10 ≤ i4_19 →
            w_X5_plus fig_20 len_21 top_22 (10 : Int32) (10 : Int32) (10 : Int32) (fun (fig_24 : Nat → Int64) (len_25 : Nat → Int32) (top_26 : Nat → Int64) =>
            ∀ (i4_27 : Int32), i4_27 = i4_19 + 1 →
            I222_23 i4_27 fig_24 len_25 top_26 ∧ μ222_23 i4_27 fig_24 len_25 top_26 < μ222_23 i4_19 fig_20 len_21 top_22)
           ))
       ) ∧ (¬ (len_16 (11 : Int32).toNatClampNeg) ≤ 0 →
        ∃ (I119_31 : (Nat → Int64) → (Nat → Int32) → Prop) (μ119_31 : (Nat → Int64) → (Nat → Int32) → Nat), I119_31 fig_15 len_16 ∧ ∀ (fig_29 : Nat → Int64) (len_30 : Nat → Int32), I119_31 fig_29 len_30 →
          vp_in 2560 4608 ∧
          ∀ (v_32 : Int64), v_32 = (fig_29 (2560 : Int32).toNatClampNeg) - (fig_29 (2560 : Int32).toNatClampNeg) / 2 * 2 →
          ((¬ v_32 = 0 →
            ∃ (I145_35 : (Nat → Int64) → (Nat → Int32) → Prop) (μ145_35 : (Nat → Int64) → (Nat → Int32) → Nat), I145_35 fig_29 len_30 ∧ ∀ (fig_33 : Nat → Int64) (len_34 : Nat → Int32), I145_35 fig_33 len_34 →
              vp_in 2816 4608 ∧
              ∀ (v_36 : Int64), v_36 = (fig_33 (2816 : Int32).toNatClampNeg) - (fig_33 (2816 : Int32).toNatClampNeg) / 2 * 2 →
              ((¬ v_36 = 0 →
                w_X5_compare fig_33 len_34 (10 : Int32) (11 : Int32) (fun (r_37 : Int32) =>
                ((r_37 ≤ 0 →
                  w_X5_minus fig_33 len_34 top_17 (11 : Int32) (11 : Int32) (10 : Int32) (fun (fig_38 : Nat → Int64) (len_39 : Nat → Int32) (top_40 : Nat → Int64) =>
                  I109_18 fig_38 len_39 top_40 ∧ μ109_18 fig_38 len_39 top_40 < μ109_18 fig_15 len_16 top_17)
                 ) ∧ (¬ r_37 ≤ 0 →
                  w_X5_copy fig_33 len_34 (13 : Int32) (10 : Int32) (fun (fig_41 : Nat → Int64) (len_42 : Nat → Int32) =>
                  w_X5_copy fig_41 len_42 (10 : Int32) (11 : Int32) (fun (fig_43 : Nat → Int64) (len_44 : Nat → Int32) =>
                  w_X5_copy fig_43 len_44 (11 : Int32) (13 : Int32) (fun (fig_45 : Nat → Int64) (len_46 : Nat → Int32) =>
                  w_X5_minus fig_45 len_46 top_17 (11 : Int32) (11 : Int32) (10 : Int32) (fun (fig_47 : Nat → Int64) (len_48 : Nat → Int32) (top_49 : Nat → Int64) =>
                  I109_18 fig_47 len_48 top_49 ∧ μ109_18 fig_47 len_48 top_49 < μ109_18 fig_15 len_16 top_17))))
                 )))
               ) ∧ (v_36 = 0 →
                w_X5_halve fig_33 len_34 (11 : Int32) (fun (fig_51 : Nat → Int64) (len_52 : Nat → Int32) =>
                I145_35 fig_51 len_52 ∧ μ145_35 fig_51 len_52 < μ145_35 fig_33 len_34)
               ))
           ) ∧ (v_32 = 0 →
            w_X5_halve fig_29 len_30 (10 : Int32) (fun (fig_54 : Nat → Int64) (len_55 : Nat → Int32) =>
            I119_31 fig_54 len_55 ∧ μ119_31 fig_54 len_55 < μ119_31 fig_29 len_30)
           ))
       )) := by
  refine ⟨fun f l _ => ∃ A B, gI V0 f l A B ∧ 0 < A ∧ (A % 2 = 1 ∨ B % 2 = 1) ∧ 2 ^ k * Nat.gcd A B = g, fun f l _ => sval f l 10 + sval f l 11, ⟨A0, B0, h0, hA0, hodd, hg0⟩, ?_⟩
  rintro f15 l16 t17 ⟨A1, B1, h1, hA1, ho1, hg1⟩
  have l11 := sR_len0 _ _ _ _ (gI_11 _ _ _ _ _ h1)
  have mu1 : sval f15 l16 10 + sval f15 l16 11 = A1 + B1 := by rw [sR_val _ _ _ _ (gI_10 _ _ _ _ _ h1), sR_val _ _ _ _ (gI_11 _ _ _ _ _ h1)]
  have ix11 : (11 : Int32).toNatClampNeg = 11 := rfl
  refine ⟨by unfold vp_in; decide, fun c => ?_, fun c => ?_⟩
  · rw [ix11, l11.2] at c
    subst c
    rw [Nat.gcd_zero_right] at hg1
    refine ⟨fun i f l _ => ∃ s : Nat, s ≤ k ∧ i.toInt = s ∧ ∃ B, gI V0 f l (2 ^ s * A1) B, fun i _ _ _ => (3000 - i.toInt).toNat, ⟨0, by omega, by decide, 0, by rw [Nat.pow_zero, Nat.one_mul]; exact h1⟩, ?_⟩
    rintro i f l t ⟨s, hs, hi, B, hB⟩
    refine ⟨fun c => ?_, fun c => ?_⟩
    · rw [q_le4, hk, hi] at c
      have : s = k := by omega
      subst this
      rw [hg1] at hB
      exact hQ _ _ _ _ hB
    · rw [q_le4, hk, hi] at c
      obtain ⟨V, hA, e1, e2, e3⟩ := hB
      have e4 : V 10 + V 10 = 2 ^ (s + 1) * A1 := by rw [e1, Nat.pow_succ, Nat.mul_right_comm]; omega
      have e5 : 2 ^ (s + 1) * A1 ≤ g := by rw [← hg1]; exact Nat.mul_le_mul_right A1 (Nat.pow_le_pow_right (by decide) (by omega))
      refine s_plus f l t V 10 10 10 10 10 10 _ hA z4_10 (by decide) z4_10 (by decide) z4_10 (by decide) (Int.lt_of_le_of_lt (Int.ofNat_le.mpr (by rw [e4]; exact e5)) hgc) ?_
      intro f' l' t' hA'
      rintro i27 rfl
      refine ⟨⟨s + 1, by omega, q_inc i s hi (by omega), B, _, hA', by rw [sV_e, e4], by rw [sV_n _ _ _ _ (by decide), e2], fun x h1 h2 h3 => by rw [sV_n _ _ _ _ h1]; exact e3 x h1 h2 h3⟩, ?_⟩
      have e6 := q_inc i s hi (by omega)
      simp only [e6, hi]; clear hA' hA e6; omega
  · rw [ix11, l11.2] at c
    refine ⟨fun f l => ∃ A, gI V0 f l A B1 ∧ 0 < A ∧ A ≤ A1 ∧ (A % 2 = 1 ∨ B1 % 2 = 1) ∧ 2 ^ k * Nat.gcd A B1 = g, fun f l => sval f l 10, ⟨A1, h1, hA1, Nat.le_refl _, ho1, hg1⟩, ?_⟩
    rintro f29 l30 ⟨A2, h2, hA2, hA21, ho2, hg2⟩
    refine ⟨by unfold vp_in; decide, ?_⟩
    intro v32 e32
    have ev32 : v32.toInt = ((A2 % 2 : Nat) : Int) := by rw [e32]; exact sR_par _ _ _ _ (gI_10 _ _ _ _ _ h2) hA2 _ rfl
    refine ⟨fun c2 => ?_, fun c2 => ?_⟩
    rotate_left
    · rw [q_eq8, ev32, z8_0] at c2
      have s10 := sR_val _ _ _ _ (gI_10 _ _ _ _ _ h2)
      obtain ⟨V, hA, e1, e2, e3⟩ := h2
      refine s_halve f29 l30 V 10 10 _ hA z4_10 (by decide) ?_
      intro f' l' hA'
      have hg3 : gI V0 f' l' (A2 / 2) B1 := ⟨_, hA', by rw [sV_e, e1], by rw [sV_n _ _ _ _ (by decide), e2], fun x h1 h2 h3 => by rw [sV_n _ _ _ _ h1]; exact e3 x h1 h2 h3⟩
      have hB1 : B1 % 2 = 1 := by omega
      refine ⟨⟨A2 / 2, hg3, by omega, by omega, Or.inr hB1, by rw [g_half A2 B1 (by omega) hB1]; exact hg2⟩, ?_⟩
      show sval f' l' 10 < sval f29 l30 10
      rw [s10, sR_val _ _ _ _ (gI_10 _ _ _ _ _ hg3)]; omega
    rw [q_eq8, ev32, z8_0] at c2
    have hodd2 : A2 % 2 = 1 := by omega
    refine ⟨fun f l => ∃ B, gI V0 f l A2 B ∧ 0 < B ∧ B ≤ B1 ∧ 2 ^ k * Nat.gcd A2 B = g, fun f l => sval f l 11, ⟨B1, h2, by omega, Nat.le_refl _, hg2⟩, ?_⟩
    rintro f33 l34 ⟨B2, h3, hB2, hB21, hg3⟩
    refine ⟨by unfold vp_in; decide, ?_⟩
    intro v36 e36
    have ev36 : v36.toInt = ((B2 % 2 : Nat) : Int) := by rw [e36]; exact sR_par _ _ _ _ (gI_11 _ _ _ _ _ h3) hB2 _ rfl
    refine ⟨fun c3 => ?_, fun c3 => ?_⟩
    rotate_left
    · rw [q_eq8, ev36, z8_0] at c3
      have s11 := sR_val _ _ _ _ (gI_11 _ _ _ _ _ h3)
      obtain ⟨V, hA, e1, e2, e3⟩ := h3
      refine s_halve f33 l34 V 11 11 _ hA z4_11 (by decide) ?_
      intro f' l' hA'
      have hg4 : gI V0 f' l' A2 (B2 / 2) := ⟨_, hA', by rw [sV_n _ _ _ _ (by decide), e1], by rw [sV_e, e2], fun x h1 h2 h3 => by rw [sV_n _ _ _ _ h2]; exact e3 x h1 h2 h3⟩
      refine ⟨⟨B2 / 2, hg4, by omega, by omega, by rw [g_halfr A2 B2 hodd2 (by omega)]; exact hg3⟩, ?_⟩
      show sval f' l' 11 < sval f33 l34 11
      rw [s11, sR_val _ _ _ _ (gI_11 _ _ _ _ _ hg4)]; omega
    have fin : ∀ f' l' (t' : Nat → Int64) A B, gI V0 f' l' A B → A + B < A1 + B1 → 0 < A → A % 2 = 1 → Nat.gcd A B = Nat.gcd A2 B2 →
        (∃ A B, gI V0 f' l' A B ∧ 0 < A ∧ (A % 2 = 1 ∨ B % 2 = 1) ∧ 2 ^ k * Nat.gcd A B = g) ∧ sval f' l' 10 + sval f' l' 11 < sval f15 l16 10 + sval f15 l16 11 := by
      intro f' l' t' A B hgi hlt hA hAo hge
      refine ⟨⟨A, B, hgi, hA, Or.inl hAo, by rw [hge]; exact hg3⟩, ?_⟩
      rw [mu1, sR_val _ _ _ _ (gI_10 _ _ _ _ _ hgi), sR_val _ _ _ _ (gI_11 _ _ _ _ _ hgi)]; exact hlt
    rw [q_eq8, ev36, z8_0] at c3
    have hB2o : B2 % 2 = 1 := by omega
    obtain ⟨V, hA, e1, e2, e3⟩ := h3
    have le : A2 ≤ B2 → w_X5_minus f33 l34 t17 (11 : Int32) (11 : Int32) (10 : Int32) (fun f' l' t' =>
        (∃ A B, gI V0 f' l' A B ∧ 0 < A ∧ (A % 2 = 1 ∨ B % 2 = 1) ∧ 2 ^ k * Nat.gcd A B = g) ∧ sval f' l' 10 + sval f' l' 11 < sval f15 l16 10 + sval f15 l16 11) := by
      intro hle
      refine s_minus f33 l34 t17 V 11 11 10 11 11 10 _ hA z4_11 (by decide) z4_11 (by decide) z4_10 (by decide) (by rw [e1, e2]; exact hle) ?_
      intro f' l' t' hA'
      refine fin f' l' t' A2 (B2 - A2) ⟨_, hA', by rw [sV_n _ _ _ _ (by decide), e1], by rw [sV_e, e1, e2], fun x h1 h2 h3 => by rw [sV_n _ _ _ _ h2]; exact e3 x h1 h2 h3⟩ (by omega) hA2 hodd2 (Nat.gcd_sub_self_right hle)
    have r1 : ((1 : Int32) ≤ 0) = False := by decide
    have r0 : ((0 : Int32) ≤ 0) = True := by decide
    have rm : ((-1 : Int32) ≤ 0) = True := by decide
    refine s_compare f33 l34 10 11 10 11 A2 B2 _ z4_10 (by decide) z4_11 (by decide) (by rw [← e1]; exact hA 10 (by decide)) (by rw [← e2]; exact hA 11 (by decide)) (fun hlt => ?_) (fun heq => ?_) (fun hlt => ?_)
    · refine ⟨fun c4 => absurd c4 (by decide), fun _ => ?_⟩
      refine s_copy f33 l34 V 13 10 13 10 _ hA z4_13 (by decide) z4_10 (by decide) (by decide) ?_
      intro f41 l42 hA41
      refine s_copy f41 l42 _ 10 11 10 11 _ hA41 z4_10 (by decide) z4_11 (by decide) (by decide) ?_
      intro f43 l44 hA43
      refine s_copy f43 l44 _ 11 13 11 13 _ hA43 z4_11 (by decide) z4_13 (by decide) (by decide) ?_
      intro f45 l46 hA45
      obtain ⟨V3, hV3⟩ : ∃ V3, V3 = sV (sV (sV V 13 (V 10)) 10 (sV V 13 (V 10) 11)) 11 (sV (sV V 13 (V 10)) 10 (sV V 13 (V 10) 11) 13) := ⟨_, rfl⟩
      rw [← hV3] at hA45
      have f10 : V3 10 = B2 := by rw [hV3, sV_n _ _ _ _ (by decide), sV_e, sV_n _ _ _ _ (by decide), e2]
      have f11 : V3 11 = A2 := by rw [hV3, sV_e, sV_n _ _ _ _ (by decide), sV_e, e1]
      have fo : ∀ s, s ≠ 10 → s ≠ 11 → s ≠ 13 → V3 s = V0 s := fun s h1 h2 h3 => by rw [hV3, sV_n _ _ _ _ h2, sV_n _ _ _ _ h1, sV_n _ _ _ _ h3]; exact e3 s h1 h2 h3
      refine s_minus f45 l46 t17 V3 11 11 10 11 11 10 _ hA45 z4_11 (by decide) z4_11 (by decide) z4_10 (by decide) (by rw [f10, f11]; omega) ?_
      intro f' l' t' hA'
      refine fin f' l' t' B2 (A2 - B2) ⟨_, hA', by rw [sV_n _ _ _ _ (by decide), f10], by rw [sV_e, f10, f11], fun x h1 h2 h3 => by rw [sV_n _ _ _ _ h2]; exact fo x h1 h2 h3⟩ (by omega) hB2 hB2o ?_
      rw [Nat.gcd_sub_self_right (by omega), Nat.gcd_comm]
    · exact ⟨fun _ => le (by omega), fun c4 => absurd (by decide) c4⟩
    · exact ⟨fun _ => le (by omega), fun c4 => absurd (by decide) c4⟩
theorem s_divisor (fig : Nat → Int64) (len : Nat → Int32) (top : Nat → Int64) (V : Nat → Nat) (p0 p1 : Int32) (p o : Nat) (Q : (Nat → Int64) → (Nat → Int32) → (Nat → Int64) → Prop) (h : AL fig len V)
    (hp : p0.toInt = p) (hp2 : p < 18) (ho : p1.toInt = o) (ho2 : o < 18) (hp3 : p ≠ 10 ∧ p ≠ 11) (ho3 : o ≠ 10 ∧ o ≠ 11)
    (hQ : ∀ fig' len' top' B, gI V fig' len' (Nat.gcd (V p) (V o)) B → Q fig' len' top') : w_X5_divisor fig len top p0 p1 Q := by
  unfold w_X5_divisor
  have capa := sR_cap _ _ _ _ (h p hp2)
  have capb := sR_cap _ _ _ _ (h o ho2)
  have ixp := q_ix p0 p hp
  have pin : vp_in p0 18 := q_in p0 18 (by omega) (by omega)
  refine s_copy fig len V 10 p0 10 p _ h z4_10 (by decide) hp hp2 (fun e => hp3.1 e.symm) ?_
  intro f1 l2 h1
  refine s_copy f1 l2 _ 11 p1 11 o _ h1 z4_11 (by decide) ho ho2 (fun e => ho3.2 e.symm) ?_
  intro f3 l4 h3
  rw [sV_n V 10 _ o ho3.1] at h3
  obtain ⟨a, ha⟩ : ∃ a, a = V p := ⟨_, rfl⟩
  obtain ⟨b, hb⟩ : ∃ b, b = V o := ⟨_, rfl⟩
  rw [← ha, ← hb] at h3 hQ
  rw [← ha] at capa
  rw [← hb] at capb
  obtain ⟨V1, hV1⟩ : ∃ V1, V1 = sV (sV V 10 a) 11 b := ⟨_, rfl⟩
  rw [← hV1] at h3
  have g10 : V1 10 = a := by rw [hV1, sV_n _ _ _ _ (by decide), sV_e]
  have g11 : V1 11 = b := by rw [hV1, sV_e]
  have go : ∀ s, s ≠ 10 → s ≠ 11 → V1 s = V s := fun s h1 h2 => by rw [hV1, sV_n _ _ _ _ h2, sV_n _ _ _ _ h1]
  have gi : gI V f3 l4 a b := ⟨V1, h3, g10, g11, fun s h1 h2 _ => go s h1 h2⟩
  have gp : V1 p = a := by rw [go p hp3.1 hp3.2, ha]
  have gob : V1 o = b := by rw [go o ho3.1 ho3.2, hb]
  have l10 := sR_len0 _ _ _ _ (gI_10 _ _ _ _ _ gi)
  have l11 := sR_len0 _ _ _ _ (gI_11 _ _ _ _ _ gi)
  have lp := sR_len0 _ _ _ _ (h3 p hp2)
  rw [gp] at lp
  have ix10 : (10 : Int32).toNatClampNeg = 10 := rfl
  have ix11 : (11 : Int32).toNatClampNeg = 11 := rfl
  have cpa : b = 0 → w_X5_copy f3 l4 10 p0 (fun f' l' => Q f' l' top) := by
    intro hb0
    refine s_copy f3 l4 V1 10 p0 10 p _ h3 z4_10 (by decide) hp hp2 (fun e => hp3.1 e.symm) ?_
    intro f5 l6 h5
    refine hQ f5 l6 top b ⟨_, h5, by rw [sV_e, gp, hb0, Nat.gcd_zero_right], by rw [sV_n _ _ _ _ (by decide), g11], fun s h1 h2 _ => by rw [sV_n _ _ _ _ h1]; exact go s h1 h2⟩
  have cpb : a = 0 → w_X5_copy f3 l4 10 p1 (fun f' l' => Q f' l' top) := by
    intro ha0
    refine s_copy f3 l4 V1 10 p1 10 o _ h3 z4_10 (by decide) ho ho2 (fun e => ho3.1 e.symm) ?_
    intro f5 l6 h5
    refine hQ f5 l6 top b ⟨_, h5, by rw [sV_e, gob, ha0, Nat.gcd_zero_left], by rw [sV_n _ _ _ _ (by decide), g11], fun s h1 h2 _ => by rw [sV_n _ _ _ _ h1]; exact go s h1 h2⟩
  refine ⟨by unfold vp_in; decide, fun c => ⟨pin, fun c2 => ?_, fun c2 => ?_⟩, fun c => ⟨by unfold vp_in; decide, fun c2 => ?_, fun c2 => ⟨pin, fun c3 => ?_, fun c3 => ?_⟩⟩⟩
  · rw [ix10, l10.1] at c
    rw [ixp, lp.1] at c2
    exact absurd c c2
  · rw [ix10, l10.1] at c
    exact cpb c
  rotate_left
  · rw [ix11, l11.1] at c2
    exact cpa c2
  · rw [ix10, l10.1] at c
    rw [ixp, lp.1] at c3
    exact absurd c3 c
  rw [ix10, l10.1] at c
  rw [ix11, l11.1] at c2
  have hgle : Nat.gcd a b ≤ a := Nat.le_of_dvd (by omega) (Nat.gcd_dvd_left a b)
  have hgc : ((Nat.gcd a b : Nat) : Int) < C64 := Int.lt_of_le_of_lt (Int.ofNat_le.mpr hgle) capa
  refine ⟨fun i f l => ∃ k A B : Nat, i.toInt = k ∧ k < 2000 ∧ gI V f l A B ∧ 0 < A ∧ 0 < B ∧ 2 ^ k * Nat.gcd A B = Nat.gcd a b, fun _ f l => sval f l 10, ⟨0, a, b, by decide, by decide, gi, by omega, by omega, by rw [Nat.pow_zero, Nat.one_mul]⟩, ?_⟩
  rintro i3 f11 l12 ⟨k, A, B, hk, hk2, hgi, hA, hB, hg⟩
  refine ⟨by unfold vp_in; decide, ?_⟩
  intro v14 e14
  have ev14 : v14.toInt = ((A % 2 : Nat) : Int) := by rw [e14]; exact sR_par _ _ _ _ (gI_10 _ _ _ _ _ hgi) hA _ rfl
  refine ⟨fun c3 => ?_, fun c3 => ⟨by unfold vp_in; decide, ?_⟩⟩
  · rw [q_eq8, ev14, z8_0] at c3
    exact s_gblock f11 l12 top i3 V k A B (Nat.gcd a b) Q hk hgi hA (Or.inl (by omega)) hg hgc hk2 hQ
  · rw [q_eq8, ev14, z8_0] at c3
    intro v58 e58
    have ev58 : v58.toInt = ((B % 2 : Nat) : Int) := by rw [e58]; exact sR_par _ _ _ _ (gI_11 _ _ _ _ _ hgi) hB _ rfl
    refine ⟨fun c4 => ?_, fun c4 => ?_⟩
    · rw [q_eq8, ev58, z8_0] at c4
      exact s_gblock f11 l12 top i3 V k A B (Nat.gcd a b) Q hk hgi hA (Or.inr (by omega)) hg hgc hk2 hQ
    · rw [q_eq8, ev58, z8_0] at c4
      have s10 := sR_val _ _ _ _ (gI_10 _ _ _ _ _ hgi)
      obtain ⟨V2, hA2, e1, e2, e3⟩ := hgi
      refine s_halve f11 l12 V2 10 10 _ hA2 z4_10 (by decide) ?_
      intro f102 l103 h102
      refine s_halve f102 l103 _ 11 11 _ h102 z4_11 (by decide) ?_
      intro f104 l105 h104
      rintro i106 rfl
      have hg4 : gI V f104 l105 (A / 2) (B / 2) := ⟨_, h104, by rw [sV_n _ _ _ _ (by decide), sV_e, e1], by rw [sV_e, sV_n _ _ _ _ (by decide), e2], fun x h1 h2 h3 => by rw [sV_n _ _ _ _ h2, sV_n _ _ _ _ h1]; exact e3 x h1 h2 h3⟩
      have hgg : 2 * Nat.gcd (A / 2) (B / 2) = Nat.gcd A B := by
        rw [← Nat.gcd_mul_left, show 2 * (A / 2) = A by omega, show 2 * (B / 2) = B by omega]
      have hpos : 0 < Nat.gcd (A / 2) (B / 2) := Nat.gcd_pos_of_pos_left _ (by omega)
      have hg5 : 2 ^ (k + 1) * Nat.gcd (A / 2) (B / 2) = Nat.gcd a b := by rw [Nat.pow_succ, Nat.mul_assoc, hgg]; exact hg
      have hk3 : k + 1 < 2000 := p2_cap (k + 1) (Nat.gcd a b) (by rw [← hg5]; exact Nat.le_mul_of_pos_right _ hpos) hgc
      refine ⟨⟨k + 1, A / 2, B / 2, q_inc i3 k hk (by omega), hk3, hg4, by omega, by omega, hg5⟩, ?_⟩
      show sval f104 l105 10 < sval f11 l12 10
      rw [s10, sR_val _ _ _ _ (gI_10 _ _ _ _ _ hg4)]; omega
