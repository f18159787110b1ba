/-! throwing: what a thrower wants of the start, and how it is handed on -/
def zz_ (A : Nat → Prop) (U : State) (H : Heap) : Prop := vx_Zq Bundle.tN "UNASSIGNED_STACK" Bundle.steD A U H ∧ vx_Zq Bundle.tN "SUPPRESSED_SENTINEL" Bundle.listD A U H
def str_ (a1 a2 a3 a4 : Nat) (U : State) : Prop := vk_R RX1 132 "there is no such number" a1 U ∧ vk_R RX1 137 "too small or too large" a2 U ∧ vk_R RX1 57 "the ledger is empty" a3 U ∧ vk_R RX1 140 "the ledger is full" a4 U
abbrev E_i : String := "java/lang/IndexOutOfBoundsException"
abbrev E_a : String := "java/lang/IllegalArgumentException"
abbrev E_s : String := "java/lang/IllegalStateException"
def bw_all : List Cond := [.declares (Bundle.initS "java/lang/RuntimeException"), .declares (Bundle.initS "java/lang/Exception"), .declares (Bundle.initS "java/lang/Throwable"), .castable "java/lang/IndexOutOfBoundsException" "java/lang/IndexOutOfBoundsException", .castable "java/lang/IllegalArgumentException" "java/lang/IllegalArgumentException", .castable "java/lang/IllegalStateException" "java/lang/IllegalStateException"]
def bw_ (U : State) : Prop := ∀ w ∈ bw_all, va_Nw w U
theorem bw_tab : ∀ w ∈ bw_all, w.onTables = true := by decide +kernel
theorem bw_warm {s U : State} (hW : s.WarmedH U.vm) (h : bw_ s) : bw_ U := by
  unfold bw_ bw_all
  exact List.forall_mem_cons.mpr ⟨va_Nw.warmD hW (h _ (by decide +kernel)), List.forall_mem_cons.mpr ⟨va_Nw.warmD hW (h _ (by decide +kernel)), List.forall_mem_cons.mpr ⟨va_Nw.warmD hW (h _ (by decide +kernel)), List.forall_mem_cons.mpr ⟨va_Nw.warmC hW (h _ (by decide +kernel)), List.forall_mem_cons.mpr ⟨va_Nw.warmC hW (h _ (by decide +kernel)), List.forall_mem_cons.mpr ⟨va_Nw.warmC hW (h _ (by decide +kernel)), fun _ h => absurd h List.not_mem_nil⟩⟩⟩⟩⟩⟩
theorem bw_use {U : State} {A : Array Value} (h : bw_ U) : ∀ w ∈ bw_all, w.before A U = true := fun w hw => va_Nw.use (bw_tab w hw) (h w hw)
theorem zz_mk {s U : State} {A : Nat → Prop} {H : Heap} {locs : List Loc} {wc : va_W} (hZ : zz_ A s s.heap) (hS : va_S A s.heap H locs) (hF : ∀ q, va_A wc H.size q → A q) (hU : U.heap = H) (hW : s.WarmedH U.vm) : zz_ (va_A wc H.size) U U.heap := by
  rw [hU]
  exact ⟨vx_Zq.moved hW.alike ((hZ.1.kept hS.2.1).narrow hF), vx_Zq.moved hW.alike ((hZ.2.kept hS.2.1).narrow hF)⟩
theorem str_warm {a1 a2 a3 a4 : Nat} {s U : State} (hW : s.WarmedH U.vm) (h : str_ a1 a2 a3 a4 s) : str_ a1 a2 a3 a4 U := ⟨h.1.warm hW, h.2.1.warm hW, h.2.2.1.warm hW, h.2.2.2.warm hW⟩
def px_ (a1 a2 a3 a4 : Nat) (D : va_G) (tys : List (ClassId × FieldType)) (ws : va_W) (sz : Nat) (U : State) : Prop := U.heap.size = sz ∧ va_P D vwCl ws U.heap ∧ va_K D vwCl tys U ∧ va_D (fun _ => True) ws ∧ zz_ (va_A ws sz) U U.heap ∧ str_ a1 a2 a3 a4 U ∧ bw_ U
theorem px_blind {a1 a2 a3 a4 : Nat} {av : List Value} {D : va_G} {tys : List (ClassId × FieldType)} {ws : va_W} {sz : Nat} : FrameBlind (va_Pc av (px_ a1 a2 a3 a4 D tys ws sz)) := fun a U g mk q => by
  obtain ⟨q0, q1, qP, qK, qD, qZ, qS, qB⟩ := q
  exact ⟨q0, q1, qP, va_K.moved (u := U) (U := U.calling g mk a) (Vm.Alike.refl U.vm) qK, qD, ⟨vx_Zq.moved (u := U) (U := U.calling g mk a) (Vm.Alike.refl U.vm) qZ.1, vx_Zq.moved (u := U) (U := U.calling g mk a) (Vm.Alike.refl U.vm) qZ.2⟩, ⟨vk_R.same (u := U) (U := U.calling g mk a) rfl qS.1, vk_R.same (u := U) (U := U.calling g mk a) rfl qS.2.1, vk_R.same (u := U) (U := U.calling g mk a) rfl qS.2.2.1, vk_R.same (u := U) (U := U.calling g mk a) rfl qS.2.2.2⟩, fun w hw => va_Nw.same (u := U) (U := U.calling g mk a) (bw_tab w hw) rfl (qB w hw)⟩
theorem px_mk {a1 a2 a3 a4 : Nat} {s : State} {H : Heap} {locs : List Loc} {D : va_G} {tys : List (ClassId × FieldType)} {wc : va_W} {A : Nat → Prop} {av : List Value} (hZ : zz_ A s s.heap) (hT : str_ a1 a2 a3 a4 s) (hW9 : bw_ s) (hS : va_S A s.heap H locs) (hF : ∀ q, va_A wc H.size q → A q) (hK : va_K D vwCl tys s) (hP : va_P D vwCl wc H) (hD : va_D A wc) : ∀ U : State, U.heap = H → s.WarmedH U.vm → va_Pc av (px_ a1 a2 a3 a4 D tys wc H.size) av.toArray U := fun U hU hW => ⟨rfl, by rw [hU], by rw [hU]; exact hP, va_K.moved hW.alike hK, hD.weaken (fun _ _ _ _ => trivial), zz_mk hZ hS hF hU hW, str_warm hW hT, bw_warm hW hW9⟩
theorem px_S {a1 a2 a3 a4 : Nat} {s : State} {H : Heap} {locs : List Loc} {D : va_G} {tys : List (ClassId × FieldType)} {wc : va_W} {A : Nat → Prop} {av : List Value} (hZ : zz_ A s s.heap) (hT : str_ a1 a2 a3 a4 s) (hW9 : bw_ s) (hS : va_S A s.heap H locs) (hF : ∀ q, va_A wc H.size q → A q) (hK : va_K D vwCl tys s) (hP : va_P D vwCl wc H) (hD : va_D A wc) : PreS s H (va_Pc av (px_ a1 a2 a3 a4 D tys wc H.size)) av := ⟨px_blind, px_mk hZ hT hW9 hS hF hK hP hD⟩
theorem px_V {a1 a2 a3 a4 : Nat} {s : State} {H : Heap} {locs : List Loc} {D : va_G} {tys : List (ClassId × FieldType)} {wc : va_W} {A : Nat → Prop} {a : Nat} {As : List Value} (hZ : zz_ A s s.heap) (hT : str_ a1 a2 a3 a4 s) (hW9 : bw_ s) (hS : va_S A s.heap H locs) (hF : ∀ q, va_A wc H.size q → A q) (hK : va_K D vwCl tys s) (hP : va_P D vwCl wc H) (hD : va_D A wc) {ci q0 N : Nat} {C : String} {T : u_T} {fs : List Value} (hc : vwCl[ci]? = some (C, T, N)) (he : wc[q0]? = some (a, .inr (ci, fs))) : PreV s H C a (va_Pc (.ref a :: As) (px_ a1 a2 a3 a4 D tys wc H.size)) As := ⟨px_blind, va_recv hK hP hc he, px_mk hZ hT hW9 hS hF hK hP hD⟩
theorem ot_i : ∀ w ∈ Cond.classLink RX1 130 E_i :: Cond.initialized E_i :: vx_atS RX1 134 E_i ["java/lang/RuntimeException", "java/lang/Exception"], vx_ot w = true := by decide +kernel
theorem ot_a : ∀ w ∈ Cond.classLink RX1 135 E_a :: Cond.initialized E_a :: vx_atS RX1 139 E_a ["java/lang/RuntimeException", "java/lang/Exception"], vx_ot w = true := by decide +kernel
theorem ot_s : ∀ w ∈ Cond.classLink RX1 55 E_s :: Cond.initialized E_s :: vx_atS RX1 59 E_s ["java/lang/RuntimeException", "java/lang/Exception"], vx_ot w = true := by decide +kernel
theorem bad_i : ∀ w ∈ (vx_atS RX1 134 E_i ["java/lang/RuntimeException", "java/lang/Exception"]).filter (fun w => !goodWord w), w ∈ bw_all := by decide +kernel
theorem bad_a : ∀ w ∈ (vx_atS RX1 139 E_a ["java/lang/RuntimeException", "java/lang/Exception"]).filter (fun w => !goodWord w), w ∈ bw_all := by decide +kernel
theorem bad_s : ∀ w ∈ (vx_atS RX1 59 E_s ["java/lang/RuntimeException", "java/lang/Exception"]).filter (fun w => !goodWord w), w ∈ bw_all := by decide +kernel
theorem fit_x : (∀ n ∈ ["java/lang/RuntimeException", "java/lang/Exception"], Bundle.fit n = true) := by decide +kernel
theorem fit_i : Bundle.fit E_i = true := by decide +kernel
theorem fit_a : Bundle.fit E_a = true := by decide +kernel
theorem fit_s : Bundle.fit E_s = true := by decide +kernel
