/-! the answers, as pure functions of a reckoning -/
theorem sw_out4 {k : Int32} (h0 : ¬ k = 0) (h1 : ¬ k = 1) (h2 : ¬ k = 2) (h3 : ¬ k = 3) : k.toInt < 0 ∨ 3 < k.toInt := by
  by_cases h : k.toInt < 0 ∨ 3 < k.toInt
  · exact h
  · exfalso
    have e : k.toInt = 0 ∨ k.toInt = 1 ∨ k.toInt = 2 ∨ k.toInt = 3 := by omega
    rcases e with e | e | e | e
    · exact h0 (Int32.toInt_inj.mp e)
    · exact h1 (Int32.toInt_inj.mp e)
    · exact h2 (Int32.toInt_inj.mp e)
    · exact h3 (Int32.toInt_inj.mp e)
theorem sw_out6 {k : Int32} (h0 : ¬ k = 0) (h1 : ¬ k = 1) (h2 : ¬ k = 2) (h3 : ¬ k = 3) (h4 : ¬ k = 4) (h5 : ¬ k = 5) : k.toInt < 0 ∨ 5 < k.toInt := by
  by_cases h : k.toInt < 0 ∨ 5 < k.toInt
  · exact h
  · exfalso
    have e : k.toInt = 0 ∨ k.toInt = 1 ∨ k.toInt = 2 ∨ k.toInt = 3 ∨ k.toInt = 4 ∨ k.toInt = 5 := by omega
    rcases e with e | e | e | e | e | e
    · exact h0 (Int32.toInt_inj.mp e)
    · exact h1 (Int32.toInt_inj.mp e)
    · exact h2 (Int32.toInt_inj.mp e)
    · exact h3 (Int32.toInt_inj.mp e)
    · exact h4 (Int32.toInt_inj.mp e)
    · exact h5 (Int32.toInt_inj.mp e)
theorem ans_of {α : Type} {G : T9 → α} (hG : ∀ s s', sim9 s s' → G s = G s') {L T K F S B B' U : N2I} {n i : Nat} (hX : okX K F S B n) (hi : i ≤ n) {s : T9} (h : s = mRec L T K F S B' U i) : G s = G (cRec L T K F S B' i) := by
  rw [h]
  exact hG _ _ (mRec_sim U (fun _ => 0) hX.2.1 i hi)
def aCount (n : Nat) (w : Int32) (s : T9) : Int32 := match s with
  | (co, _, _, _, cn, ii, fi, fe, _) => if w = 0 then nI n else if w = 1 then nI n - cn - ii else if w = 2 then cn else if w = 3 then co else if w = 4 then fi else fe
theorem aCount_sim (n : Nat) (w : Int32) (s s' : T9) (h : sim9 s s') : aCount n w s = aCount n w s' := by
  obtain ⟨co, pl, st, jo, cn, ii, fi, fe, U⟩ := s
  obtain ⟨co', pl', st', jo', cn', ii', fi', fe', U'⟩ := s'
  obtain ⟨rfl, rfl, rfl, rfl, rfl, rfl, rfl, rfl, -⟩ := h
  rfl
theorem mSum_sim {U U' : N2I} : ∀ j, simU j U U' → mSum U j = mSum U' j := by
  intro j
  induction j with
  | zero => intro _; rfl
  | succ j ih =>
    intro h
    show mSum U j + U j = mSum U' j + U' j
    rw [ih (fun i hi => h i (by omega)), h j (by omega)]
def aBehind (w : Int32) (s : T9) : Int32 := match s with
  | (co, pl, st, jo, cn, ii, _, _, U) => if w = 0 then co else if w = 1 then pl else if w = 2 then st else if w = 3 then jo else if w = 4 then mSum U jo.toNatClampNeg else if w = 5 then cn else ii
theorem aBehind_sim (w : Int32) (s s' : T9) (h : sim9 s s') : aBehind w s = aBehind w s' := by
  obtain ⟨co, pl, st, jo, cn, ii, fi, fe, U⟩ := s
  obtain ⟨co', pl', st', jo', cn', ii', fi', fe', U'⟩ := s'
  obtain ⟨rfl, rfl, rfl, rfl, rfl, rfl, rfl, rfl, j, hj, e1, e2⟩ := h
  dsimp only at e1 e2
  subst e1
  unfold aBehind
  dsimp only
  rw [nI_clamp (by omega), mSum_sim j e2]
def aTrust (p : Int32) (s : T9) : Int32 := match s with
  | (_, _, _, jo, _, _, _, _, U) => if mJd jo p = 0 then -1 else U p.toNatClampNeg
theorem aTrust_sim {p : Int32} (hp : vp_in p 6) (s s' : T9) (h : sim9 s s') : aTrust p s = aTrust p s' := by
  obtain ⟨co, pl, st, jo, cn, ii, fi, fe, U⟩ := s
  obtain ⟨co', pl', st', jo', cn', ii', fi', fe', U'⟩ := s'
  obtain ⟨rfl, rfl, rfl, rfl, rfl, rfl, rfl, rfl, j, hj, e1, e2⟩ := h
  dsimp only at e1 e2
  subst e1
  unfold aTrust
  dsimp only
  rcases jd_cases hj hp with h0 | ⟨q, hq, rfl, h1⟩
  · rw [h0, if_pos rfl, if_pos rfl]
  · rw [h1, if_neg one_ne, if_neg one_ne, nI_clamp (by omega), e2 q hq]
def aWould (L T : N2I) (p th : Int32) (s : T9) : Int32 := match s with
  | (_, _, st, jo, _, _, _, _, U) => if mCan T st jo U p = 0 then -1 else mTak L st th
theorem aWould_sim (L T : N2I) {p : Int32} (th : Int32) (hp : vp_in p 6) (s s' : T9) (h : sim9 s s') : aWould L T p th s = aWould L T p th s' := by
  obtain ⟨co, pl, st, jo, cn, ii, fi, fe, U⟩ := s
  obtain ⟨co', pl', st', jo', cn', ii', fi', fe', U'⟩ := s'
  obtain ⟨rfl, rfl, rfl, rfl, rfl, rfl, rfl, rfl, j, hj, e1, e2⟩ := h
  dsimp only at e1 e2
  subst e1
  unfold aWould
  dsimp only
  rw [simU_can e2 hj hp]
def aMean (s : T9) : UInt64 := match s with
  | (_, _, _, jo, _, _, _, _, U) => if jo = 0 then FP.dconst0 else FP.ddiv (FP.i2d (mSum U jo.toNatClampNeg)) (FP.i2d jo)
theorem aMean_sim (s s' : T9) (h : sim9 s s') : aMean s = aMean s' := by
  obtain ⟨co, pl, st, jo, cn, ii, fi, fe, U⟩ := s
  obtain ⟨co', pl', st', jo', cn', ii', fi', fe', U'⟩ := s'
  obtain ⟨rfl, rfl, rfl, rfl, rfl, rfl, rfl, rfl, j, hj, e1, e2⟩ := h
  dsimp only at e1 e2
  subst e1
  unfold aMean
  dsimp only
  rw [nI_clamp (by omega), mSum_sim j e2]
def aCo (L T K F S B : N2I) (n : Nat) (f : Int32) : Int32 := (cRec L T K F S (mFl B f) n).1
theorem aCo_of {L T K F S B U : N2I} {n : Nat} {f : Int32} (hX : okX K F S B n) {co pl st jo cn ii fi fe : Int32} {U1 : N2I} (h : (co, pl, st, jo, cn, ii, fi, fe, U1) = mRec L T K F S (mFl B f) U n) : co = aCo L T K F S B n f :=
  ans_of (G := fun s => s.1) (fun _ _ h => h.1) hX (Nat.le_refl n) h
def nb (x : Int32) : Int32 := if x = 0 then 1 else 0
def aBest (c : Int32 → Int32) (B : N2I) : Nat → Int32 × Int32
  | 0 => (-1, c (-1))
  | e + 1 => if B e = 0 then (if c (nI e) ≤ (aBest c B e).2 then aBest c B e else (nI e, c (nI e))) else aBest c B e
def aEnt (L T K F S B : N2I) (i : Nat) (w : Int32) : Int32 := if w = 0 then K i else if w = 1 then F i else if w = 2 then S i else if w = 3 then (if B i = 0 then 0 else 1) else (if aCnt L T K F S B i = 0 then 0 else 1)
def dg (d : Int64) (x : Int32) : Int64 := d * 31 + x.toInt64
def dg1 (n : Nat) (s : T9) : Nat → Int64
  | 0 => 1229
  | k + 1 => dg (dg1 n s k) (aCount n (nI k) s)
def dg2 (L T : N2I) (d : Int64) : Nat → Int64
  | 0 => d
  | k + 1 => dg (dg (dg2 L T d k) (L k)) (T k)
def dg3i (L T K F S B : N2I) (e : Nat) (d : Int64) : Nat → Int64
  | 0 => d
  | k + 1 => dg (dg3i L T K F S B e d k) (aEnt L T K F S B e (nI k))
def dg3 (L T K F S B : N2I) (d : Int64) : Nat → Int64
  | 0 => d
  | e + 1 => dg (dg3i L T K F S B e (dg3 L T K F S B d e) 5) (aBehind 0 (cRec L T K F S B (e + 1)))
def dg4 (s : T9) (d : Int64) : Nat → Int64
  | 0 => d
  | k + 1 => dg (dg4 s d k) (aTrust (nI k) s)
def aDig (L T K F S B : N2I) (n : Nat) : Int64 := dg4 (cRec L T K F S B n) (dg3 L T K F S B (dg2 L T (dg1 n (cRec L T K F S B n) 6) 4) n) 6
/-- moving an entry: exchanges of neighbours, up or down -/
def upS (f : N2I) (i : Nat) : Nat → N2I
  | 0 => f
  | t + 1 => swp (upS f i t) (i + t) (i + t + 1)
def dnS (f : N2I) (i : Nat) : Nat → N2I
  | 0 => f
  | t + 1 => swp (dnS f i t) (i - t) (i - t - 1)
def mvS (f : N2I) (i q : Nat) : N2I := dnS (upS f i (q - i)) i (i - q)
