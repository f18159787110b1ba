/-! rows of rows: an array whose elements are int arrays; the tables say which class such an array has -/
def aa_ (U : State) : Prop := (Cond.arrayOver (.array .int)).before #[] U = true
theorem aa_of {A : Array Value} {U : State} (h : (Cond.arrayOver (.array .int)).before A U = true) : aa_ U := over_moved (Vm.Alike.refl U.vm) h
theorem aa_use {A : Array Value} {U : State} (h : aa_ U) : (Cond.arrayOver (.array .int)).before A U = true := over_moved (Vm.Alike.refl U.vm) h
theorem aa_moved {u U : State} (hvm : u.vm.Alike U.vm) (h : aa_ u) : aa_ U := over_moved hvm h
/-- the component's class: the class of int arrays -/
theorem aa_cls {D : va_G} {cl : List vw_C} {tys : List (ClassId × FieldType)} {U : State} (hov : aa_ U) (hK : va_K D cl tys U) {t0 tI : Nat} {cA cI : ClassId} (ht : tys[t0]? = some (cA, .array .int)) (hI : tys[tI]? = some (cI, .int)) : ∃ kA kI : Class, U.vm.classes[cA]? = some kA ∧ kA.kind = .array cI (.array .int) ∧ U.vm.classes[cI]? = some kI := by
  obtain ⟨comp, c, k, h1, -, h3, h4, h5⟩ := arrayOverA_spec hov
  have e1 : U.vm.findClass ("[" ++ (FieldType.array .int).toString) = some cA := (hK.2 t0 _ ht).2
  have e2 : U.vm.findClass ("[" ++ FieldType.int.toString) = some cI := (hK.2 tI _ hI).2
  have e3 : cA = c := Option.some.inj (e1.symm.trans h5)
  have e4 : cI = comp := Option.some.inj (e2.symm.trans h1)
  subst e3; subst e4
  obtain ⟨kI, hkI, -⟩ := Vm.findClass_spec e2
  exact ⟨k, kI, h3, h4, hkI⟩
section
variable {p : Program} {l : Launch} {e : Env} {R : Room} {s : State} {m : MethodId} {args : Array Value} {below : List Frame} {meth : Method} {c : Code} {H : Heap} {locs : List Loc} {cells slots : Nat} {Q : State → Prop}
variable {cc : ByteArray} {pc : Nat} {ls : Array Slot} {rest : List Value} {D : va_G} {cl : List vw_C} {A : Nat → Prop} {a : Nat} {tys : List (ClassId × FieldType)} {ws : va_W} {H0 : Heap}
/-- a new array of rows: its places hold null -/
theorem aa_new (hexec : p.tables.exec = Jvm.exec) (hb : c.code = cc) {own : String} {index : Nat} (hown : s.vm.findClass own = some m.cls) (hclink : (Cond.classLink own index "[I").before args s = true) (hov : aa_ s) (hK : va_K D cl tys s) (hP : va_P D cl ws H) (hD : va_D A ws) (hS : va_S A H0 H locs) (hA : ∀ q, H0.size ≤ q → A q)
    {n : Int32} {N' : Nat} (hn : ¬ n < 0) (hN : n.toNatClampNeg = N') (hbytes : N' * 4 ≤ 536870912) (hcells : cells + 1 ≤ R.cells) (hslots : slots + N' ≤ R.slots) (hdg : decode cc pc = .ok (.anewarray index, 3))
    (kk : ∀ (q : Nat) (cA : ClassId) (H1 : Heap), va_K D cl (tys ++ [(cA, .array .int)]) s → va_P D cl (ws ++ [(q, .inl (cA, N', .inr (.inr (.inr (.inr (fun _ => none))))))]) H1 → va_D A (ws ++ [(q, .inl (cA, N', .inr (.inr (.inr (.inr (fun _ => none))))))]) → va_S A H0 H1 locs →
      W p l e R s m args below meth c H1 locs (cells + 1) (slots + N') Q (F0 m (pc + 3) ls (.ref q :: rest))) : W p l e R s m args below meth c H locs cells slots Q (F0 m pc ls (.int n :: rest)) := by
  subst hN
  refine W.anewA (t := .int) hexec hb hown (by rw [show (FieldType.array .int).toString = "[I" from rfl]; exact hclink) (aa_use hov) rfl hdg rfl hn hbytes hcells hslots fun cA kA comp f1 f2 f3 f4 => ?_
  have z1 : (H.push ({ cls := cA, slots := Array.replicate n.toNatClampNeg .null, vm := .none } : Cell)).size = H.size + 1 := Array.size_push _
  have e1 : (H.push ({ cls := cA, slots := Array.replicate n.toNatClampNeg .null, vm := .none } : Cell))[H.size]? = some (arrV cA n.toNatClampNeg (fun _ => .null)) := by rw [Array.getElem?_push_size, ← arrV_new]
  have o1 : ∀ q : Nat, q < H.size → (H.push ({ cls := cA, slots := Array.replicate n.toNatClampNeg .null, vm := .none } : Cell))[q]? = H[q]? := fun q hq => by rw [Array.getElem?_push, if_neg (Nat.ne_of_lt hq)]
  revert z1 e1 o1
  generalize H.push ({ cls := cA, slots := Array.replicate n.toNatClampNeg .null, vm := .none } : Cell) = H1
  intro z1 e1 o1
  have hAr : ArrOfT s cA (.array .int) := fun N z => ⟨(fun k h => by cases h), kA, f2, comp, f3⟩
  refine kk H.size cA H1 ?_ ?_ (hD.push hP rfl (hA _ hS.1)) ⟨Nat.le_trans hS.1 (by omega), fun x h1 h2 => (o1 x (Nat.lt_of_lt_of_le h1 hS.1)).trans (hS.2.1 x h1 h2), hS.2.2⟩
  · exact va_K.app hK ⟨hK.1, fun k x hx => by
      rcases k with _ | k
      · cases hx; exact ⟨hAr, f1⟩
      · simp at hx⟩
  · refine (hP.kept (fun k x hx => o1 x.1 ((hP k x hx).lt))).app (fun k x hx => ?_)
    rcases k with _ | k
    · cases hx
      show H1[H.size]? = some (vp_cell _ _)
      rw [vp_cell_q]
      exact e1
    · simp at hx
/-- a row out of an array of rows -/
theorem aa_ald (hexec : p.tables.exec = Jvm.exec) (hb : c.code = cc) (hK : va_K D cl tys s) (hP : va_P D cl ws H) (q0 t0 : Nat) {cA : ClassId} {n v : Nat} {f : Nat → Option Nat} (ha : ws[q0]? = some (a, .inl (cA, n, .inr (.inr (.inr (.inr f)))))) (ht : tys[t0]? = some (cA, .array .int)) {i : Int32} (hin : vp_in i n) (hv : f i.toNatClampNeg = some v) (hdg : decode cc pc = .ok (.aaload, 1))
    (kk : W p l e R s m args below meth c H locs cells slots Q (F0 m (pc + 1) ls (.ref v :: rest))) : W p l e R s m args below meth c H locs cells slots Q (F0 m pc ls (.int i :: .ref a :: rest)) := by
  have hlt : i.toNatClampNeg < n := Nat.not_le.mp fun q => hin (Or.inr q)
  refine W.aald (v := va_rf (f i.toNatClampNeg)) (ty := .array .int) hexec hb (hP q0 _ ha) ((hK.2 t0 _ ht).1 n (fun j => va_rf (f j))) rfl (fun q => by cases q) (by show ¬ (i < 0 ∨ (arrV _ _ _).slots.size ≤ _); rw [arrV_size]; exact hin) (by show (arrV _ _ _).slots[_]? = _; rw [arrV_read _ _ hlt]) rfl rfl hdg ?_
  rw [hv]
  exact kk
/-- a row into an array of rows -/
theorem aa_ast (hexec : p.tables.exec = Jvm.exec) (hb : c.code = cc) (hov : aa_ s) (hK : va_K D cl tys s) (hP : va_P D cl ws H) (hD : va_D A ws) (hS : va_S A H0 H locs) (q0 t0 tI qk : Nat) {cA cI : ClassId} {n v nv : Nat} {g : Nat → Int32} {f : Nat → Option Nat} (ha : ws[q0]? = some (a, .inl (cA, n, .inr (.inr (.inr (.inr f)))))) (ht : tys[t0]? = some (cA, .array .int)) (hI : tys[tI]? = some (cI, .int)) (hv : ws[qk]? = some (v, .inl (cI, nv, .inl g))) {i : Int32} (hin : vp_in i n) (hdg : decode cc pc = .ok (.aastore, 1))
    (kk : ∀ (H1 : Heap) (locs1 : List Loc), va_P D cl (ws.set q0 (a, .inl (cA, n, .inr (.inr (.inr (.inr (va_up f i.toNatClampNeg (some v)))))))) H1 → va_D A (ws.set q0 (a, .inl (cA, n, .inr (.inr (.inr (.inr (va_up f i.toNatClampNeg (some v)))))))) → va_S A H0 H1 locs1 → W p l e R s m args below meth c H1 locs1 cells slots Q (F0 m (pc + 1) ls rest)) : W p l e R s m args below meth c H locs cells slots Q (F0 m pc ls (.ref v :: .int i :: .ref a :: rest)) := by
  have hlt : i.toNatClampNeg < n := Nat.not_le.mp fun q => hin (Or.inr q)
  have h0 : ¬ i < 0 := fun q => hin (Or.inl q)
  obtain ⟨kA, kI, k1, k2, k3⟩ := aa_cls hov hK ht hI
  have g1 : H[v]? = some (arrV cI nv (fun j => .int (g j))) := hP qk _ hv
  refine W.aast (t := .array .int) (comp := cI) hexec hb (hP q0 _ ha) (fun q h => by cases h) (fun h => by cases h) k1 k2 rfl k3 ⟨h0, by show _ < (arrV _ _ _).slots.size; rw [arrV_size]; exact hlt⟩ g1 (fun q h => by cases h) k3 (va_asg _ _) rfl rfl hdg fun H1 e z oq => ?_
  refine kk H1 _ (hP.set hD ha ?_ oq) (hD.set ha) (hS.put z oq (hD.2 q0 _ ha))
  show H1[a]? = some (vp_cell _ _)
  rw [e, vp_cell_q, vp_cell_q, arrV_store]
  congr 2
  funext q
  by_cases hq : q = i.toNatClampNeg
  · subst hq
    simp [updV, va_up, va_rf]
  · simp [updV, va_up, hq]
end
/-- the rows that the pool holds: each an int array of four places -/
abbrev rowE (cI : ClassId) (row : Nat → Nat → Int32) : Nat → va_E := fun a => .inl (cI, 4, .inl (row a))
theorem rowE_up (cI : ClassId) (row : Nat → Nat → Int32) (a : Nat) (g : Nat → Int32) : va_up (rowE cI row) a (.inl (cI, 4, .inl g)) = rowE cI (va_up row a g) := by
  funext b
  by_cases h : b = a
  · subst h; simp [va_up]
  · simp [va_up, h]
