/-! roads that meet again: what lies behind the meeting is walked once -/
section
variable {p : Program} {l : Launch} {e : Env} {R : Room} {s : State} {m : MethodId} {args : Array Value} {below : List Frame} {meth : Method} {c : Code} {H : Heap} {locs : List Loc} {cells slots : Nat} {Q : State → Prop}
theorem w_joinN {V : Type} {P : V → Prop} {g2 : V → JFrame} {g : JFrame} (k2 : ∀ v, P v → W p l e R s m args below meth c H locs cells slots Q (g2 v)) (k1 : (∀ v, P v → W p l e R s m args below meth c H locs cells slots Q (g2 v)) → W p l e R s m args below meth c H locs cells slots Q g) : W p l e R s m args below meth c H locs cells slots Q g := k1 k2
theorem w_joinL {V : Type} {P : V → Array Slot → Prop} {g2 : V → Array Slot → JFrame} {g : JFrame} (k2 : ∀ v ls, P v ls → W p l e R s m args below meth c H locs cells slots Q (g2 v ls)) (k1 : (∀ v ls, P v ls → W p l e R s m args below meth c H locs cells slots Q (g2 v ls)) → W p l e R s m args below meth c H locs cells slots Q g) : W p l e R s m args below meth c H locs cells slots Q g := k1 k2
theorem w_joinG {V : Type} {P : V → Heap → List Loc → Prop} {g2 : V → JFrame} {g : JFrame} (k2 : ∀ v H1 locs1, P v H1 locs1 → W p l e R s m args below meth c H1 locs1 cells slots Q (g2 v)) (k1 : (∀ v H1 locs1, P v H1 locs1 → W p l e R s m args below meth c H1 locs1 cells slots Q (g2 v)) → W p l e R s m args below meth c H locs cells slots Q g) : W p l e R s m args below meth c H locs cells slots Q g := k1 k2
end
/-- a new row goes into the pool -/
theorem pool_in {D : va_G} {cl : List vw_C} {A : Nat → Prop} {X : va_W} {RL : List Nat} {cI : ClassId} {row : Nat → Nat → Int32} {q : Nat} {g : Nat → Int32} {H : Heap} (hP : va_P D cl ((X ++ [(q, .inl (cI, 4, .inl g))]) ++ va_pl RL (rowE cI row)) H) (hD : va_D A ((X ++ [(q, .inl (cI, 4, .inl g))]) ++ va_pl RL (rowE cI row))) : q ∉ RL ∧ va_P D cl (X ++ va_pl (RL ++ [q]) (rowE cI (va_up row q g))) H ∧ va_D A (X ++ va_pl (RL ++ [q]) (rowE cI (va_up row q g))) := by
  have hP1 := va_P.swap hP
  have hD1 := va_D.swap hD
  have hq : q ∉ RL := va_pl_fresh2 hD1
  rw [List.append_assoc, va_pl_push hq, rowE_up] at hP1 hD1
  exact ⟨hq, hP1, hD1⟩
/-! what the callers want of the start -/
def pa_ (D : va_G) (tys : List (ClassId × FieldType)) (ws : va_W) (sz : Nat) (U : State) : Prop := U.heap.size = sz ∧ va_P D vwCl ws U.heap ∧ va_K D vwCl tys U ∧ va_D (fun _ => True) ws ∧ nw_ U ∧ aa_ U
theorem pa_blind {av : List Value} {D : va_G} {tys : List (ClassId × FieldType)} {ws : va_W} {sz : Nat} : FrameBlind (va_Pc av (pa_ D tys ws sz)) := fun a U g mk q => by
  obtain ⟨q0, q1, qP, qK, qD, qN, qA⟩ := q
  exact ⟨q0, q1, qP, va_K.moved (u := U) (U := U.calling g mk a) (Vm.Alike.refl U.vm) qK, qD, fun w hw => va_Nw.same (u := U) (U := U.calling g mk a) (nw_tab w hw) rfl (qN w hw), aa_moved (u := U) (U := U.calling g mk a) (Vm.Alike.refl U.vm) qA⟩
theorem pa_mk {s : State} {H : Heap} {D : va_G} {tys : List (ClassId × FieldType)} {wc : va_W} {A : Nat → Prop} {av : List Value} (hN : nw_ s) (hov : aa_ s) (hK : va_K D vwCl tys s) (hP : va_P D vwCl wc H) (hD : va_D A wc) : ∀ U : State, U.heap = H → s.WarmedH U.vm → va_Pc av (pa_ D tys wc H.size) av.toArray U := fun U hU hW => ⟨rfl, by rw [hU], by rw [hU]; exact hP, va_K.moved hW.alike hK, hD.weaken (fun _ _ _ _ => trivial), nw_warm hW hN, aa_moved hW.alike hov⟩
theorem pa_S {s : State} {H : Heap} {D : va_G} {tys : List (ClassId × FieldType)} {wc : va_W} {A : Nat → Prop} {av : List Value} (hN : nw_ s) (hov : aa_ s) (hK : va_K D vwCl tys s) (hP : va_P D vwCl wc H) (hD : va_D A wc) : PreS s H (va_Pc av (pa_ D tys wc H.size)) av := ⟨pa_blind, pa_mk hN hov hK hP hD⟩
theorem pa_V {s : State} {H : Heap} {D : va_G} {tys : List (ClassId × FieldType)} {wc : va_W} {A : Nat → Prop} {a : Nat} {As : List Value} (hN : nw_ s) (hov : aa_ s) (hK : va_K D vwCl tys s) (hP : va_P D vwCl wc H) (hD : va_D A wc) {ci q0 N : Nat} {C : String} {T : u_T} {fs : List Value} (hc : vwCl[ci]? = some (C, T, N)) (he : wc[q0]? = some (a, .inr (ci, fs))) : PreV s H C a (va_Pc (.ref a :: As) (pa_ D tys wc H.size)) As := ⟨pa_blind, va_recv hK hP hc he, pa_mk hN hov hK hP hD⟩
def ps_ (b LL : Nat) (xs : Nat → Int32) (D : va_G) (tys : List (ClassId × FieldType)) (ws : va_W) (sz : Nat) (U : State) : Prop := U.heap.size = sz ∧ va_P D vwCl ws U.heap ∧ va_K D vwCl tys U ∧ va_D (fun _ => True) ws ∧ nw_ U ∧ aa_ U ∧ va_X b LL xs U U.heap ∧ b < sz ∧ ¬ va_A ws sz b
theorem ps_blind {b LL : Nat} {xs : Nat → Int32} {av : List Value} {D : va_G} {tys : List (ClassId × FieldType)} {ws : va_W} {sz : Nat} : FrameBlind (va_Pc av (ps_ b LL xs D tys ws sz)) := fun a U g mk q => by
  obtain ⟨q0, q1, qP, qK, qD, qN, qA, qX, qb, qf⟩ := q
  exact ⟨q0, q1, qP, va_K.moved (u := U) (U := U.calling g mk a) (Vm.Alike.refl U.vm) qK, qD, fun w hw => va_Nw.same (u := U) (U := U.calling g mk a) (nw_tab w hw) rfl (qN w hw), aa_moved (u := U) (U := U.calling g mk a) (Vm.Alike.refl U.vm) qA, va_X.moved (u := U) (U := U.calling g mk a) (Vm.Alike.refl U.vm) qX, qb, qf⟩
theorem ps_mk {b LL : Nat} {xs : Nat → Int32} {s : State} {H : Heap} {locs : List Loc} {D : va_G} {tys : List (ClassId × FieldType)} {wc : va_W} {A : Nat → Prop} {av : List Value} (hN : nw_ s) (hov : aa_ s) (hXs : va_X b LL xs s s.heap) (hbl : b < s.heap.size) (hbA : ¬ A b) (hS : va_S A s.heap H locs) (hF : ∀ q, va_A wc H.size q → A q) (hK : va_K D vwCl tys s) (hP : va_P D vwCl wc H) (hD : va_D A wc) : ∀ U : State, U.heap = H → s.WarmedH U.vm → va_Pc av (ps_ b LL xs D tys wc H.size) av.toArray U := fun U hU hW => ⟨rfl, by rw [hU], by rw [hU]; exact hP, va_K.moved hW.alike hK, hD.weaken (fun _ _ _ _ => trivial), nw_warm hW hN, aa_moved hW.alike hov, by rw [hU]; exact (hXs.kept (hS.2.1 b hbl hbA)).moved hW.alike, Nat.lt_of_lt_of_le hbl hS.1, fun h => hbA (hF b h)⟩
theorem ps_S {b LL : Nat} {xs : Nat → Int32} {s : State} {H : Heap} {locs : List Loc} {D : va_G} {tys : List (ClassId × FieldType)} {wc : va_W} {A : Nat → Prop} {av : List Value} (hN : nw_ s) (hov : aa_ s) (hXs : va_X b LL xs s s.heap) (hbl : b < s.heap.size) (hbA : ¬ A b) (hS : va_S A s.heap H locs) (hF : ∀ q, va_A wc H.size q → A q) (hK : va_K D vwCl tys s) (hP : va_P D vwCl wc H) (hD : va_D A wc) : PreS s H (va_Pc av (ps_ b LL xs D tys wc H.size)) av := ⟨ps_blind, ps_mk hN hov hXs hbl hbA hS hF hK hP hD⟩
/-! rows that hold the ledger's entries: kind, two numbers, struck -/
def rwM (K F S B : N2I) (i j : Nat) : Int32 := if j = 0 then K i else if j = 1 then F i else if j = 2 then S i else B i
def RW (n : Nat) (ra : Nat → Option Nat) (RL : List Nat) (row : Nat → Nat → Int32) (K F S B : N2I) : Prop := gr_ok ra RL (fun _ => 4) row n 4 (rwM K F S B)
theorem up4 (q : Nat) : va_up (fun _ : Nat => 4) q 4 = fun _ => 4 := by
  funext j
  unfold va_up
  split <;> rfl
theorem RW_get {n : Nat} {ra : Nat → Option Nat} {RL : List Nat} {row : Nat → Nat → Int32} {K F S B : N2I} (h : RW n ra RL row K F S B) {i : Nat} (hi : i < n) : ∃ a, ra i = some a ∧ a ∈ RL ∧ row a 0 = K i ∧ row a 1 = F i ∧ row a 2 = S i ∧ row a 3 = B i := by
  obtain ⟨a, h1, h2, -, h3⟩ := h.1 i hi
  exact ⟨a, h1, h2, h3 0 (by omega), h3 1 (by omega), h3 2 (by omega), h3 3 (by omega)⟩
theorem RW_ra {n : Nat} {ra ra' : Nat → Option Nat} {RL : List Nat} {row : Nat → Nat → Int32} {K F S B : N2I} (h : RW n ra RL row K F S B) (e : ∀ i, i < n → ra' i = ra i) : RW n ra' RL row K F S B :=
  ⟨fun i hi => by rw [e i hi]; exact h.1 i hi, fun i j hi hj q => h.2 i j hi hj (by rw [← e i hi, ← e j hj]; exact q)⟩
theorem RW_congr {n : Nat} {ra : Nat → Option Nat} {RL : List Nat} {row : Nat → Nat → Int32} {K F S B K' F' S' B' : N2I} (h : RW n ra RL row K F S B) (e : ∀ i, i < n → K' i = K i ∧ F' i = F i ∧ S' i = S i ∧ B' i = B i) : RW n ra RL row K' F' S' B' := by
  refine ⟨fun i hi => ?_, h.2⟩
  obtain ⟨a, h1, h2, h3, h4⟩ := h.1 i hi
  refine ⟨a, h1, h2, h3, fun j hj => ?_⟩
  rw [h4 j hj]
  obtain ⟨e1, e2, e3, e4⟩ := e i hi
  unfold rwM
  rw [e1, e2, e3, e4]
theorem RW_new {n : Nat} {ra : Nat → Option Nat} {RL : List Nat} {row : Nat → Nat → Int32} {K F S B : N2I} (h : RW n ra RL row K F S B) {q : Nat} (hq : q ∉ RL) (g : Nat → Int32) : RW n ra (RL ++ [q]) (va_up row q g) K F S B := by
  have := gr_new (m := 4) (r := g) h hq
  rw [up4] at this
  exact this
theorem RW_add {n : Nat} {ra ra' : Nat → Option Nat} {RL : List Nat} {row : Nat → Nat → Int32} {K F S B : N2I} (h : RW n ra RL row K F S B) {q : Nat} (hq : q ∉ RL) {g : Nat → Int32} {k a b : Int32} (h0 : g 0 = k) (h1 : g 1 = a) (h2 : g 2 = b) (h3 : g 3 = 0) (e : ∀ i, i < n → ra' i = ra i) : RW (n + 1) (va_up ra' n (some q)) (RL ++ [q]) (va_up row q g) (upd K n k) (upd F n a) (upd S n b) (upd B n 0) := by
  have hr := RW_ra h e
  have := gr_add (k := 4) (r := g) (M' := rwM (upd K n k) (upd F n a) (upd S n b) (upd B n 0)) hr hq (fun j hj => by
    have c : j = 0 ∨ j = 1 ∨ j = 2 ∨ j = 3 := by omega
    unfold rwM upd
    rcases c with rfl | rfl | rfl | rfl
    · simp [h0]
    · simp [h1]
    · simp [h2]
    · simp [h3]) (fun i j hi hj => by
    have c : ¬ i = n := by omega
    unfold rwM upd
    simp [c])
  rw [up4] at this
  exact this
theorem RW_set {n : Nat} {ra : Nat → Option Nat} {RL : List Nat} {row : Nat → Nat → Int32} {K F S B : N2I} (h : RW n ra RL row K F S B) {i a : Nat} (hi : i < n) (ha : ra i = some a) (x : Int32) : RW n ra RL (va_up row a (upd (row a) 3 x)) K F S (upd B i x) := by
  obtain ⟨a', e1, -, e2, e3, e4, -⟩ := RW_get h hi
  cases ha.symm.trans e1
  exact gr_put (k := 4) (r := upd (row a) 3 x) (M' := rwM K F S (upd B i x)) h hi ha (fun j hj => by
    have c : j = 0 ∨ j = 1 ∨ j = 2 ∨ j = 3 := by omega
    unfold rwM upd
    rcases c with rfl | rfl | rfl | rfl
    · simp [e2]
    · simp [e3]
    · simp [e4]
    · simp) (fun b j hb hne hj => by
    unfold rwM upd
    simp [hne])
/-! an entry taken out, an entry put in -/
def dlA {α : Type} (f : Nat → α) (i : Nat) : Nat → α := fun j => if j < i then f j else f (j + 1)
def inA {α : Type} (f : Nat → α) (q : Nat) (x : α) : Nat → α := fun j => if j < q then f j else if j = q then x else f (j - 1)
theorem RW_take {n : Nat} {ra ra' : Nat → Option Nat} {RL : List Nat} {row : Nat → Nat → Int32} {K F S B : N2I} (h : RW n ra RL row K F S B) {i : Nat} (hi : i < n) (e : ∀ j, j < n - 1 → ra' j = dlA ra i j) : RW (n - 1) ra' RL row (dlA K i) (dlA F i) (dlA S i) (dlA B i) := by
  have key : ∀ j, j < n - 1 → ∃ t, t < n ∧ ra' j = ra t ∧ dlA K i j = K t ∧ dlA F i j = F t ∧ dlA S i j = S t ∧ dlA B i j = B t ∧ (t = j ∧ j < i ∨ t = j + 1 ∧ i ≤ j) := by
    intro j hj
    rw [e j hj]
    unfold dlA
    by_cases hji : j < i
    · exact ⟨j, by omega, by simp [hji], by simp [hji], by simp [hji], by simp [hji], by simp [hji], Or.inl ⟨rfl, hji⟩⟩
    · exact ⟨j + 1, by omega, by simp [hji], by simp [hji], by simp [hji], by simp [hji], by simp [hji], Or.inr ⟨rfl, by omega⟩⟩
  refine ⟨fun j hj => ?_, fun j k hj hk q => ?_⟩
  · obtain ⟨t, ht, e1, e2, e3, e4, e5, -⟩ := key j hj
    obtain ⟨a, h1, h2, h3, h4⟩ := h.1 t ht
    refine ⟨a, by rw [e1]; exact h1, h2, h3, fun x hx => ?_⟩
    rw [h4 x hx]
    unfold rwM
    rw [e2, e3, e4, e5]
  · obtain ⟨t, ht, e1, -, -, -, -, e2⟩ := key j hj
    obtain ⟨u, hu, f1, -, -, -, -, f2⟩ := key k hk
    have := h.2 t u ht hu (by rw [← e1, ← f1]; exact q)
    omega
theorem RW_ins {n : Nat} {ra ra' : Nat → Option Nat} {RL : List Nat} {row : Nat → Nat → Int32} {K F S B : N2I} (h : RW n ra RL row K F S B) {q a : Nat} (hq : q ≤ n) (ha : a ∈ RL) {k x y z : Int32} (h0 : row a 0 = k) (h1 : row a 1 = x) (h2 : row a 2 = y) (h3 : row a 3 = z) (hne : ∀ j, j < n → ¬ ra j = some a) (e : ∀ j, j < n + 1 → ra' j = inA ra q (some a) j) : RW (n + 1) ra' RL row (inA K q k) (inA F q x) (inA S q y) (inA B q z) := by
  have key : ∀ j, j < n + 1 → (j = q ∧ ra' j = some a ∧ inA K q k j = k ∧ inA F q x j = x ∧ inA S q y j = y ∧ inA B q z j = z) ∨ ∃ t, t < n ∧ ra' j = ra t ∧ inA K q k j = K t ∧ inA F q x j = F t ∧ inA S q y j = S t ∧ inA B q z j = B t ∧ (t = j ∧ j < q ∨ t = j - 1 ∧ q < j) := by
    intro j hj
    rw [e j hj]
    unfold inA
    by_cases hjq : j < q
    · exact Or.inr ⟨j, by omega, by simp [hjq], by simp [hjq], by simp [hjq], by simp [hjq], by simp [hjq], Or.inl ⟨rfl, hjq⟩⟩
    · by_cases hje : j = q
      · subst hje
        exact Or.inl ⟨rfl, by simp, by simp, by simp, by simp, by simp⟩
      · exact Or.inr ⟨j - 1, by omega, by simp [hjq, hje], by simp [hjq, hje], by simp [hjq, hje], by simp [hjq, hje], by simp [hjq, hje], Or.inr ⟨rfl, by omega⟩⟩
  refine ⟨fun j hj => ?_, fun j t hj ht w => ?_⟩
  · rcases key j hj with ⟨-, e1, e2, e3, e4, e5⟩ | ⟨t, ht, e1, e2, e3, e4, e5, -⟩
    · refine ⟨a, e1, ha, rfl, fun c hc => ?_⟩
      have cc : c = 0 ∨ c = 1 ∨ c = 2 ∨ c = 3 := by omega
      unfold rwM
      rw [e2, e3, e4, e5]
      rcases cc with rfl | rfl | rfl | rfl
      · simp [h0]
      · simp [h1]
      · simp [h2]
      · simp [h3]
    · obtain ⟨b, g1, g2, g3, g4⟩ := h.1 t ht
      refine ⟨b, by rw [e1]; exact g1, g2, g3, fun c hc => ?_⟩
      rw [g4 c hc]
      unfold rwM
      rw [e2, e3, e4, e5]
  · rcases key j hj with ⟨e0, e1, -⟩ | ⟨u, hu, e1, -, -, -, -, e2⟩
    · rcases key t ht with ⟨f0, -⟩ | ⟨v, hv, f1, -⟩
      · omega
      · exact absurd (by rw [← f1, ← w, e1]) (hne v hv)
    · rcases key t ht with ⟨-, f1, -⟩ | ⟨v, hv, f1, -, -, -, -, f2⟩
      · exact absurd (by rw [← e1, w, f1]) (hne u hu)
      · have := h.2 u v hu hv (by rw [← e1, ← f1]; exact w)
        omega
