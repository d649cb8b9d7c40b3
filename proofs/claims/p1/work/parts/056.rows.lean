/-! AN ARRAY OF ROWS, of which nothing is kept but that it was made; loops that count -/
def tx_AO (U : State) : Prop := (Cond.arrayOver (.array .long)).before #[] U = true
theorem tx_AO.moved {u U : State} (hvm : u.vm.Alike U.vm) (h : tx_AO u) : tx_AO U := by
  obtain ⟨comp, c, k, h1, h2, h3, h4, h5⟩ := arrayOverA_spec h
  obtain ⟨k', hk', he⟩ := hvm.2.2 _ _ h3
  have hi : (U.vm.classes.findIdx? fun (x : Class) => match x.kind with | .array component _ => component == comp | _ => false) = some c := by
    have e1 := va_idx_bare U.vm comp
    have e2 := va_idx_bare u.vm comp
    have e3 : U.vm.bare = u.vm.bare := by first | exact hvm.bare_eq | exact hvm.bare_eq.symm
    rw [e3] at e1
    exact (e1.symm.trans e2).trans h2
  have hkind : k'.kind = .array comp (.array .long) := by rw [he]; exact h4
  have f1 : U.vm.findClass (FieldType.array .long).toString = some comp := by rw [hvm.findClass]; exact h1
  have f2 : U.vm.findClass ("[" ++ (FieldType.array .long).toString) = some c := by rw [hvm.findClass]; exact h5
  unfold tx_AO Cond.before Cond.holds
  simp only [Cond.value]
  rw [f1, Option.bind_some]
  refine (congrArg (fun o : Option Nat => (o.bind (fun c => (U.vm.classes[c]?).map fun (k : Class) => match k.kind with | .array _ ty => decide (ty = FieldType.array .long) && decide (U.vm.findClass ("[" ++ (FieldType.array .long).toString) = some c) | _ => false) == some true)) hi).trans ?_
  simp [hk', hkind, f2]
def tx_C (U : State) : Prop := tx_N U ∧ tx_AO U
theorem tx_C.warm {s U : State} (hW : s.WarmedH U.vm) (h : tx_C s) : tx_C U := ⟨h.1.warm hW, h.2.moved hW.alike⟩
theorem tx_C.same {u U : State} (hv : u.vm = U.vm) (h : tx_C u) : tx_C U := ⟨h.1.same hv, h.2.moved (by rw [hv]; exact Vm.Alike.refl _)⟩
section TX9
variable {p : Program} {l : Launch} {e : Env} {R : Room} {s : State} {m : MethodId} {args : Array Value} {below : List Frame} {meth : Method} {c : Code} {H : Heap} {locs : List Loc} {cells slots : Nat} {Q : State → Prop}
variable {cc : ByteArray} {pc : Nat} {ls : Array Slot} {rest : List Value} {D : va_G} {cl : List vw_C} {A : Nat → Prop} {ws : va_W} {H0 : Heap}
theorem tx_newrows (hexec : p.tables.exec = Jvm.exec) (hb : c.code = cc) {own : String} {index : Nat} (hown : s.vm.findClass own = some m.cls) (hclink : (Cond.classLink own index (FieldType.array .long).toString).before args s = true) (hover : tx_AO s) (hP : va_P D cl ws H) (hS : va_S A H0 H locs)
    {n : Int32} {N' : Nat} (hn : ¬ n < 0) (hN : n.toNatClampNeg = N') (hbytes : N' * 4 ≤ 536870912) (hcells : cells + 1 ≤ R.cells) (hslots : slots + N' ≤ R.slots) (hdg : decode cc pc = .ok (.anewarray index, 3))
    (kk : ∀ (q : Nat) (H1 : Heap), va_P D cl ws H1 → va_S A H0 H1 locs → W p l e R s m args below meth c H1 locs (cells + 1) (slots + N') Q (F0 m (pc + 3) ls (.ref q :: rest))) : W p l e R s m args below meth c H locs cells slots Q (F0 m pc ls (.int n :: rest)) := by
  subst hN
  refine W.anewA hexec hb hown hclink hover rfl hdg rfl hn hbytes hcells hslots fun cA kA comp f1 f2 f3 f4 => ?_
  generalize hH1 : H.push ({ cls := cA, slots := Array.replicate n.toNatClampNeg .null, vm := .none } : Cell) = H1
  have z1 : H1.size = H.size + 1 := by rw [← hH1, Array.size_push]
  have o1 : ∀ q : Nat, q < H.size → H1[q]? = H[q]? := fun q hq => by
    rw [← hH1, Array.getElem?_push]
    simp [Nat.ne_of_lt hq]
  exact kk H.size H1 (hP.kept (fun k q hq => o1 q.1 ((hP k q hq).lt))) ⟨Nat.le_trans hS.1 (by omega), fun q h1 h2 => (o1 q (Nat.lt_of_lt_of_le h1 hS.1)).trans (hS.2.1 q h1 h2), hS.2.2⟩
/-- a loop that counts from 0 up to e, its head at pc with an empty stack -/
theorem tx_loop (I : Nat → Heap → List Loc → Array Slot → Prop) (e0 : Nat)
    (step : ∀ (i : Nat) (H : Heap) (locs : List Loc) (ls : Array Slot), i < e0 → I i H locs ls → (∀ (H' : Heap) (locs' : List Loc) (ls' : Array Slot), I (i + 1) H' locs' ls' → W p l e R s m args below meth c H' locs' cells slots Q (F0 m pc ls' [])) → W p l e R s m args below meth c H locs cells slots Q (F0 m pc ls []))
    (stop : ∀ (H : Heap) (locs : List Loc) (ls : Array Slot), I e0 H locs ls → W p l e R s m args below meth c H locs cells slots Q (F0 m pc ls [])) :
    ∀ (i : Nat) (H : Heap) (locs : List Loc) (ls : Array Slot), i ≤ e0 → I i H locs ls → W p l e R s m args below meth c H locs cells slots Q (F0 m pc ls []) := by
  intro i
  induction hk : e0 - i generalizing i with
  | zero =>
    intro H locs ls hi hI
    have : i = e0 := by omega
    subst this
    exact stop H locs ls hI
  | succ k ih =>
    intro H locs ls hi hI
    exact step i H locs ls (by omega) hI (fun H' locs' ls' h => ih (i + 1) (by omega) H' locs' ls' (by omega) h)
end TX9
