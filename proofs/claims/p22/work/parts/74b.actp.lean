theorem in_of {a : Int32} {k : Nat} (h : ¬ (a < 0 ∨ nI k < a)) (hk : k < 2 ^ 30) : vp_in a (k + 1) := by
  rw [vp_in_iff]
  have h0 : ¬ a < 0 := fun q => h (Or.inl q)
  have h1 : ¬ nI k < a := fun q => h (Or.inr q)
  rw [Int32.lt_iff_toInt_lt] at h0 h1
  rw [nI_toInt (by omega)] at h1
  rw [show (0 : Int32).toInt = 0 from rfl] at h0
  omega
theorem in_of1 {a : Int32} {k : Nat} (h : ¬ (a < 1 ∨ nI k < a)) (hk : k < 2 ^ 30) : vp_in a (k + 1) := by
  rw [vp_in_iff]
  have h0 : ¬ a < 1 := fun q => h (Or.inl q)
  have h1 : ¬ nI k < a := fun q => h (Or.inr q)
  rw [Int32.lt_iff_toInt_lt] at h0 h1
  rw [nI_toInt (by omega)] at h1
  rw [show (1 : Int32).toInt = 1 from rfl] at h0
  omega
theorem upto_of {a : Int32} {n : Nat} (h : ¬ (a < 0 ∨ nI n < a)) (hn : n < 2 ^ 30) : ∃ q, q ≤ n ∧ a = nI q := by
  obtain ⟨q, hq, e⟩ := vp_in_of (in_of h hn) (by omega)
  exact ⟨q, by omega, e⟩
theorem nin_bad {a : Int32} {n : Nat} (h : ¬ vp_in a n) (hn : n < 2 ^ 30) : a < 0 ∨ nI n ≤ a := by
  rw [vp_in_iff] at h
  rw [Int32.lt_iff_toInt_lt, Int32.le_iff_toInt_le, nI_toInt (by omega), show (0 : Int32).toInt = 0 from rfl]
  omega
theorem okX_app {K F S B : N2I} {n : Nat} {k a b : Int32} (h : okX K F S B n) (hn : n < 60) (hok : okE k a b) : okX (upd K n k) (upd F n a) (upd S n b) (upd B n 0) (n + 1) := by
  refine ⟨by omega, fun i hi => ?_, fun i => ?_⟩
  · unfold upd
    by_cases e : i = n
    · simp only [e, if_true]; exact hok
    · simp only [e, if_false]; exact h.2.1 i (by omega)
  · unfold upd
    split
    · exact Or.inl rfl
    · exact h.2.2 i
theorem okX_less {K F S B : N2I} {n m : Nat} (h : okX K F S B n) (hm : m ≤ n) : okX K F S B m := ⟨by have := h.1; omega, fun i hi => h.2.1 i (by omega), h.2.2⟩
theorem okE_join {a : Int32} : okE 0 a 0 := ⟨fun h => absurd h (by decide), fun h => absurd h (by decide), fun h => absurd h (by decide), fun h => absurd rfl h⟩
theorem okE_toss {a b : Int32} (h : vp_in a 6) (h2 : vp_in b 21) : okE 1 a b := ⟨fun h => absurd h (by decide), fun _ => h, fun _ => h2, fun _ h => absurd rfl h⟩
theorem okE_rest {a : Int32} (h : vp_in a 6) : okE 2 a 0 := ⟨fun h => absurd h (by decide), fun _ => h, fun h => absurd h (by decide), fun _ _ h => absurd rfl h⟩
theorem okE_go {a : Int32} (h : vp_in a 4) : okE 3 a 0 := ⟨fun _ => h, fun h => absurd h (by decide), fun h => absurd h (by decide), fun _ _ _ h => absurd rfl h⟩
theorem okE_pay {a b : Int32} (h : vp_in a 6) : okE 4 a b := ⟨fun h => absurd h (by decide), fun _ => h, fun h => absurd h (by decide), fun _ _ _ _ h => absurd rfl h⟩
theorem okE_buy {a : Int32} (h : vp_in a 21) : okE 5 a 0 := ⟨fun h => absurd h (by decide), fun h => absurd h (by decide), fun h => absurd h (by decide), fun _ _ _ _ _ => h⟩
theorem okX_swp {K F S B : N2I} {n a b : Nat} (h : okX K F S B n) (ha : a < n) (hb : b < n) : okX (swp K a b) (swp F a b) (swp S a b) (swp B a b) n := by
  refine ⟨h.1, fun i hi => ?_, swp_01 h.2.2 a b⟩
  unfold swp upd
  by_cases e : i = b
  · simp only [e, if_true]; exact h.2.1 a ha
  · by_cases e2 : i = a
    · simp only [e, e2, if_true, if_false]
      by_cases e3 : a = b
      · exact absurd (e2.trans e3) e
      · simp only [e3, if_false]; exact h.2.1 b hb
    · simp only [e, e2, if_false]; exact h.2.1 i hi
theorem okX_up {K F S B : N2I} {n i : Nat} (h : okX K F S B n) : ∀ t, i + t < n → okX (upS K i t) (upS F i t) (upS S i t) (upS B i t) n := by
  intro t
  induction t with
  | zero => intro _; exact h
  | succ t ih => intro ht; exact okX_swp (ih (by omega)) (by omega) (by omega)
theorem okX_dn {K F S B : N2I} {n i : Nat} (h : okX K F S B n) (hi : i < n) : ∀ t, okX (dnS K i t) (dnS F i t) (dnS S i t) (dnS B i t) n := by
  intro t
  induction t with
  | zero => exact h
  | succ t ih => exact okX_swp ih (by omega) (by omega)
theorem okX_mv {K F S B : N2I} {n i q : Nat} (h : okX K F S B n) (hi : i < n) (hq : q < n) : okX (mvS K i q) (mvS F i q) (mvS S i q) (mvS B i q) n := okX_dn (okX_up h (q - i) (by omega)) hi (i - q)
/-- what act keeps: the ledger's entries are good, and Sim's rows hold the same -/
def ST22 (L T K F S B : N2I) (n : Nat) (ra : Nat → Option Nat) (RL : List Nat) (row : Nat → Nat → Int32) : Prop := okX K F S B n ∧ okY K F S n ∧ okL L T ∧ RW n ra RL row K F S B
def okY1 (k a b : Int32) : Prop := (k = 0 → vp_in a 101) ∧ (k = 4 → vp_in b 100) ∧ vp_in k 6
theorem okY_app {K F S : N2I} {n : Nat} {k a b : Int32} (h : okY K F S n) (h1 : okY1 k a b) : okY (upd K n k) (upd F n a) (upd S n b) (n + 1) := by
  intro i hi
  unfold upd
  by_cases e : i = n
  · simp only [e, if_true]; exact h1
  · simp only [e, if_false]; exact h i (by omega)
theorem ST_add {L T K F S B : N2I} {n : Nat} {ra ra1 : Nat → Option Nat} {RL RL1 : List Nat} {row row1 : Nat → Nat → Int32} {k a b : Int32} (h : ST22 L T K F S B n ra RL row) (hn : n < 60) (hok : okE k a b) (h1 : okY1 k a b) (hR : RW (n + 1) ra1 RL1 row1 (upd K n k) (upd F n a) (upd S n b) (upd B n 0)) : ST22 L T (upd K n k) (upd F n a) (upd S n b) (upd B n 0) (n + 1) ra1 RL1 row1 :=
  ⟨okX_app h.1 hn hok, okY_app h.2.1 h1, h.2.2.1, hR⟩
theorem st_sub {x : Int32} (h : x = 0 ∨ x = 1) : 1 - x = nb x := by rcases h with rfl | rfl <;> rfl
theorem st_1 {x : Int32} (h : x = 0 ∨ x = 1) (c : 1 - x = 1) : nb x = 1 := by rcases h with rfl | rfl; rfl; exact absurd c (by decide)
theorem st_0 {x : Int32} (h : x = 0 ∨ x = 1) (c : ¬ 1 - x = 1) : nb x = 0 := by rcases h with rfl | rfl; exact absurd rfl c; rfl
theorem row_up {row : Nat → Nat → Int32} {v : Nat} {x : Int32} : va_up row v (upd (row v) 3 x) v 3 = x := by rw [va_up_self]; rfl
theorem okX_upd {K F S B : N2I} {n i : Nat} {x : Int32} (h : okX K F S B n) (hx : x = 0 ∨ x = 1) : okX K F S (upd B i x) n := ⟨h.1, h.2.1, fun j => by
  unfold upd
  split
  · exact hx
  · exact h.2.2 j⟩
theorem ST_strike {L T K F S B : N2I} {n : Nat} {ra : Nat → Option Nat} {RL : List Nat} {row : Nat → Nat → Int32} {i v : Nat} (h : ST22 L T K F S B n ra RL row) (hi : i < n) (hv : ra i = some v) : ST22 L T K F S (upd B i (nb (B i))) n ra RL (va_up row v (upd (row v) 3 (1 - B i))) := by
  obtain ⟨hX, hY, hL, hR⟩ := h
  rw [st_sub (hX.2.2 i)]
  exact ⟨okX_upd hX (by unfold nb; split <;> simp), hY, hL, RW_set hR hi hv _⟩
theorem dlA_congr {f : N2I} {n j : Nat} (h : j < n - 1) : f j = dlA f (n - 1) j := (if_pos h).symm
theorem ST_tear {L T K F S B : N2I} {n : Nat} {ra ra1 : Nat → Option Nat} {RL : List Nat} {row : Nat → Nat → Int32} (h : ST22 L T K F S B n ra RL row) (hn : 0 < n) (hR : RW (n - 1) ra1 RL row (dlA K (n - 1)) (dlA F (n - 1)) (dlA S (n - 1)) (dlA B (n - 1))) : ST22 L T K F S B (n - 1) ra1 RL row :=
  ⟨okX_less h.1 (by omega), fun i hi => h.2.1 i (by omega), h.2.2.1, RW_congr hR fun i hi => ⟨dlA_congr hi, dlA_congr hi, dlA_congr hi, dlA_congr hi⟩⟩
theorem ST_set {L T K F S B : N2I} {n : Nat} {ra : Nat → Option Nat} {RL : List Nat} {row : Nat → Nat → Int32} {s l t : Nat} (h : ST22 L T K F S B n ra RL row) (hs : s < 4) (hl : l < 10) (ht : t < 10) : ST22 (upd L s (nI l)) (upd T s (nI t)) K F S B n ra RL row := by
  refine ⟨h.1, h.2.1, fun i hi => ?_, h.2.2.2⟩
  unfold upd
  by_cases e : i = s
  · simp only [e, if_true]; exact ⟨vp_in_nI hl (by omega), vp_in_nI ht (by omega)⟩
  · simp only [e, if_false]; exact h.2.2.1 i hi
theorem take_ne {n : Nat} {ra ra1 : Nat → Option Nat} {RL : List Nat} {row : Nat → Nat → Int32} {K F S B : N2I} {i a : Nat} (hR : RW n ra RL row K F S B) (hi : i < n) (ha : ra i = some a) (h : ∀ j, j < n - 1 → ra1 j = dlA ra i j) : ∀ j, j < n - 1 → ¬ ra1 j = some a := by
  intro j hj e
  rw [h j hj] at e
  unfold dlA at e
  by_cases c : j < i
  · rw [if_pos c] at e
    have := hR.2 j i (by omega) hi (e.trans ha.symm)
    omega
  · rw [if_neg c] at e
    have := hR.2 (j + 1) i (by omega) hi (e.trans ha.symm)
    omega
/-- an entry that goes past its neighbours, one by one, goes to its place -/
theorem upS_at (f : N2I) (i : Nat) : ∀ t j, upS f i t j = if j < i then f j else if j < i + t then f (j + 1) else if j = i + t then f i else f j := by
  intro t
  induction t with
  | zero =>
    intro j
    show f j = _
    by_cases h : j < i
    · rw [if_pos h]
    · rw [if_neg h, if_neg (by omega)]
      by_cases h2 : j = i + 0
      · rw [if_pos h2, h2]; rfl
      · rw [if_neg h2]
  | succ t ih =>
    intro j
    show swp (upS f i t) (i + t) (i + t + 1) j = _
    unfold swp upd
    by_cases h1 : j = i + t + 1
    · rw [if_pos h1, ih, if_neg (by omega), if_neg (by omega), if_pos rfl, if_neg (by omega), if_neg (by omega), if_pos (by omega)]
    · rw [if_neg h1]
      by_cases h2 : j = i + t
      · rw [if_pos h2, ih, if_neg (by omega), if_neg (by omega), if_neg (by omega), if_neg (by omega), if_pos (by omega), h2]
      · rw [if_neg h2, ih]
        by_cases h3 : j < i
        · rw [if_pos h3, if_pos h3]
        · rw [if_neg h3, if_neg h3]
          by_cases h4 : j < i + t
          · rw [if_pos h4, if_pos (by omega)]
          · rw [if_neg h4, if_neg h2, if_neg (by omega), if_neg (by omega)]
theorem dnS_at (f : N2I) (i : Nat) : ∀ t j, t ≤ i → dnS f i t j = if j < i - t then f j else if j = i - t then f i else if j ≤ i then f (j - 1) else f j := by
  intro t
  induction t with
  | zero =>
    intro j _
    show f j = _
    by_cases h : j < i - 0
    · rw [if_pos h]
    · rw [if_neg h]
      by_cases h2 : j = i - 0
      · rw [if_pos h2, h2]; rfl
      · rw [if_neg h2, if_neg (by omega)]
  | succ t ih =>
    intro j ht
    have ih := fun j => ih j (by omega)
    show swp (dnS f i t) (i - t) (i - t - 1) j = _
    unfold swp upd
    by_cases h1 : j = i - t - 1
    · rw [if_pos h1, ih, if_neg (by omega), if_pos rfl, if_neg (by omega), if_pos (by omega)]
    · rw [if_neg h1]
      by_cases h2 : j = i - t
      · rw [if_pos h2, ih, if_pos (by omega), if_neg (by omega), if_neg (by omega), if_pos (by omega), h2]
      · rw [if_neg h2, ih]
        by_cases h3 : j < i - t
        · rw [if_pos h3, if_pos (by omega)]
        · rw [if_neg h3, if_neg h2, if_neg (show ¬ j < i - (t + 1) by omega), if_neg (show ¬ j = i - (t + 1) by omega)]
theorem mv_at {f : N2I} {n i q j : Nat} (hi : i < n) (hq : q < n) (hj : j < n) : mvS f i q j = inA (dlA f i) q (f i) j := by
  unfold mvS inA dlA
  rcases Nat.lt_or_ge i q with h | h
  · rw [show i - q = 0 from by omega]
    show upS f i (q - i) j = _
    rw [upS_at]
    by_cases h1 : j < i
    · rw [if_pos h1, if_pos (by omega), if_pos h1]
    · rw [if_neg h1]
      by_cases h2 : j < q
      · rw [if_pos (by omega), if_pos h2, if_neg h1]
      · rw [if_neg (by omega), if_neg h2]
        by_cases h3 : j = q
        · rw [if_pos (by omega), if_pos h3]
        · rw [if_neg (by omega), if_neg h3, if_neg (by omega), show j - 1 + 1 = j from by omega]
  · rw [show q - i = 0 from by omega]
    show dnS f i (i - q) j = _
    rw [dnS_at f i (i - q) j (by omega), show i - (i - q) = q from by omega]
    by_cases h1 : j < q
    · rw [if_pos h1, if_pos h1, if_pos (by omega)]
    · rw [if_neg h1, if_neg h1]
      by_cases h2 : j = q
      · rw [if_pos h2, if_pos h2]
      · rw [if_neg h2, if_neg h2]
        by_cases h3 : j ≤ i
        · rw [if_pos h3, if_pos (by omega)]
        · rw [if_neg h3, if_neg (by omega), show j - 1 + 1 = j from by omega]
theorem okY_mv {K F S B : N2I} {n i q : Nat} (h : okY K F S n) (hi : i < n) (hq : q < n) : okY (mvS K i q) (mvS F i q) (mvS S i q) n := by
  intro j hj
  rw [mv_at hi hq hj, mv_at hi hq hj, mv_at hi hq hj]
  unfold inA dlA
  by_cases h1 : j < q
  · simp only [h1, if_true]
    by_cases h2 : j < i
    · simp only [h2, if_true]; exact h j hj
    · simp only [h2, if_false]; exact h (j + 1) (by omega)
  · simp only [h1, if_false]
    by_cases h2 : j = q
    · simp only [h2, if_true]; exact h i hi
    · simp only [h2, if_false]
      by_cases h3 : j - 1 < i
      · simp only [h3, if_true]; exact h (j - 1) (by omega)
      · simp only [h3, if_false]; exact h (j - 1 + 1) (by omega)
theorem ST_shift {L T K F S B : N2I} {n : Nat} {ra ra1 : Nat → Option Nat} {RL : List Nat} {row : Nat → Nat → Int32} {i q : Nat} (h : ST22 L T K F S B n ra RL row) (hi : i < n) (hq : q < n) (hR : RW n ra1 RL row (inA (dlA K i) q (K i)) (inA (dlA F i) q (F i)) (inA (dlA S i) q (S i)) (inA (dlA B i) q (B i))) : ST22 L T (mvS K i q) (mvS F i q) (mvS S i q) (mvS B i q) n ra1 RL row :=
  ⟨okX_mv h.1 hi hq, okY_mv (B := B) h.2.1 hi hq, h.2.2.1, RW_congr hR fun j hj => ⟨mv_at hi hq hj, mv_at hi hq hj, mv_at hi hq hj, mv_at hi hq hj⟩⟩
theorem sw_n {n h v : Nat} (hq : n < 60 ∨ 16 ≤ h) (hh : h < 22) (hv : v < 16) (k : nI h = nI v) : n < 60 := by
  have : h = v := (nI_eq (by omega) (by omega)).mp k
  omega
theorem sw_out20 {k : Int32} (h0 : ¬ k = 0) (h1 : ¬ k = 1) (h2 : ¬ k = 2) (h3 : ¬ k = 3) (h4 : ¬ k = 4) (h5 : ¬ k = 5) (h6 : ¬ k = 6) (h7 : ¬ k = 7) (h8 : ¬ k = 8) (h9 : ¬ k = 9) (h10 : ¬ k = 10) (h11 : ¬ k = 11) (h12 : ¬ k = 12) (h13 : ¬ k = 13) (h14 : ¬ k = 14) (h15 : ¬ k = 15) (h16 : ¬ k = 16) (h17 : ¬ k = 17) (h18 : ¬ k = 18) (h19 : ¬ k = 19) : k.toInt < 0 ∨ 19 < k.toInt := by
  by_cases h : k.toInt < 0 ∨ 19 < k.toInt
  · exact h
  · exfalso
    have e : k.toInt = 0 ∨ k.toInt = 1 ∨ k.toInt = 2 ∨ k.toInt = 3 ∨ k.toInt = 4 ∨ k.toInt = 5 ∨ k.toInt = 6 ∨ k.toInt = 7 ∨ k.toInt = 8 ∨ k.toInt = 9 ∨ k.toInt = 10 ∨ k.toInt = 11 ∨ k.toInt = 12 ∨ k.toInt = 13 ∨ k.toInt = 14 ∨ k.toInt = 15 ∨ k.toInt = 16 ∨ k.toInt = 17 ∨ k.toInt = 18 ∨ k.toInt = 19 := by omega
    rcases e with e | e | e | e | e | e | e | e | e | e | e | e | e | e | e | e | e | e | e | e
    · exact h0 (Int32.toInt_inj.mp e)
    · exact h1 (Int32.toInt_inj.mp e)
    · exact h2 (Int32.toInt_inj.mp e)
    · exact h3 (Int32.toInt_inj.mp e)
    · exact h4 (Int32.toInt_inj.mp e)
    · exact h5 (Int32.toInt_inj.mp e)
    · exact h6 (Int32.toInt_inj.mp e)
    · exact h7 (Int32.toInt_inj.mp e)
    · exact h8 (Int32.toInt_inj.mp e)
    · exact h9 (Int32.toInt_inj.mp e)
    · exact h10 (Int32.toInt_inj.mp e)
    · exact h11 (Int32.toInt_inj.mp e)
    · exact h12 (Int32.toInt_inj.mp e)
    · exact h13 (Int32.toInt_inj.mp e)
    · exact h14 (Int32.toInt_inj.mp e)
    · exact h15 (Int32.toInt_inj.mp e)
    · exact h16 (Int32.toInt_inj.mp e)
    · exact h17 (Int32.toInt_inj.mp e)
    · exact h18 (Int32.toInt_inj.mp e)
    · exact h19 (Int32.toInt_inj.mp e)
