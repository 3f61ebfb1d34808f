/-! multianewarray of an int[][], over the machine's own words -/
section MNWORDS
variable {E : CtlPost} {e : Env} {d : Bool} {acts : List Action} {s : State}
theorem mn_fits {c comp : ClassId} {kk : Class} {t : FieldType} {v : Value} (hk : s.vm.classes[c]? = some kk) (hkind : kk.kind = .array comp t) (hv : fits t v = true) (i : Nat) : s.fitsSlot c .none i v = true := by
  unfold State.fitsSlot State.slotType?
  rw [hk]
  simp only [Option.bind_eq_bind, Option.bind_some, hkind, hv]
theorem mn_new {c comp : ClassId} {kk : Class} {t : FieldType} {N : Nat} {v : Value} (hk : s.vm.classes[c]? = some kk) (hkind : kk.kind = .array comp t) (hv : fits t v = true)
    (h1 : N ≤ e.platform.arrayLengthLimit) (h2 : N * componentBytes t ≤ e.platform.maxHeapBytes) (h3 : s.heap.size < e.platform.maxCells) (h4 : s.slotsUsed + N ≤ e.platform.maxSlots)
    {Q : Addr → Pre} (hq : ∀ d' acts', Q s.heap.size d' acts' (s.pushCell (arrV c N fun _ => v))) : wp (Jvm.newArray c N v) Q E e d acts s := by
  have n1 : ¬ N > e.platform.arrayLengthLimit := by omega
  have n2 : ¬ N * componentBytes t > e.platform.maxHeapBytes := by omega
  have n3 : ¬ N > e.platform.maxSlots := by omega
  simp only [Jvm.newArray, Jvm.arrayFits, wp_bind', W.ask, W.ite, n1, n2, n3, if_false, wp_pure', W.theClass, hk, Option.some.injEq, exists_eq_left', hkind, W.alloc, Array.size_replicate]
  refine ⟨h3, h4, fun i x hx => ?_, ?_⟩
  · rw [Array.getElem?_replicate] at hx
    split at hx
    · cases hx; exact mn_fits hk hkind hv i
    · cases hx
  · rw [arrV_new]
    exact hq _ _
/-- behind i inner arrays: the outer one with i references, and these -/
def mnS (T : State) (cA cB : ClassId) (N K : Nat) : Nat → State
  | 0 => T.pushCell (arrV cA N fun _ => .null)
  | i + 1 => ((mnS T cA cB N K i).pushCell (arrV cB K fun _ => .int 0)).setCell T.heap.size (arrV cA N fun j => if j < i + 1 then .ref (T.heap.size + 1 + j) else .null)
theorem mnS_top (T : State) (f : JFrame) (cA cB : ClassId) (N K : Nat) : ∀ i, mnS (T.setTop f) cA cB N K i = (mnS T cA cB N K i).setTop f
  | 0 => rfl
  | i + 1 => by
    show ((mnS (T.setTop f) cA cB N K i).pushCell _).setCell _ _ = _
    rw [mnS_top T f cA cB N K i]
    rfl
theorem mnS_facts (T : State) (cA cB : ClassId) (N K : Nat) : ∀ i, (mnS T cA cB N K i).heap.size = T.heap.size + 1 + i ∧ (mnS T cA cB N K i).slotsUsed = T.slotsUsed + N + i * K ∧ (mnS T cA cB N K i).vm = T.vm ∧
    (mnS T cA cB N K i).heap[T.heap.size]? = some (arrV cA N fun j => if j < i then .ref (T.heap.size + 1 + j) else .null) ∧ (∀ a : Nat, a < T.heap.size → (mnS T cA cB N K i).heap[a]? = T.heap[a]?) ∧
    (∀ j : Nat, j < i → (mnS T cA cB N K i).heap[T.heap.size + 1 + j]? = some (arrV cB K fun _ => .int 0))
  | 0 => by
    refine ⟨by show (T.heap.push _).size = _; rw [Array.size_push], by show T.slotsUsed + _ = _; rw [arrV_size]; omega, rfl, ?_, fun a ha => ?_, fun j hj => by omega⟩
    · show (T.heap.push _)[T.heap.size]? = _
      rw [Array.getElem?_push_size]
      simp
    · show (T.heap.push _)[a]? = _
      rw [Array.getElem?_push, if_neg (by omega)]
  | i + 1 => by
    obtain ⟨f1, f2, f3, f4, f5, f6⟩ := mnS_facts T cA cB N K i
    refine ⟨?_, ?_, f3, ?_, fun a ha => ?_, fun j hj => ?_⟩
    · show (((mnS T cA cB N K i).heap.push _).setIfInBounds _ _).size = _
      rw [Array.size_setIfInBounds, Array.size_push, f1]; omega
    · show (mnS T cA cB N K i).slotsUsed + _ = _
      rw [f2, arrV_size, Nat.succ_mul]; omega
    · show (((mnS T cA cB N K i).heap.push _).setIfInBounds T.heap.size _)[T.heap.size]? = _
      rw [Array.getElem?_setIfInBounds_self_of_lt (by rw [Array.size_push, f1]; omega)]
    · show (((mnS T cA cB N K i).heap.push _).setIfInBounds T.heap.size _)[a]? = _
      rw [Array.getElem?_setIfInBounds_ne (by omega), Array.getElem?_push, if_neg (by rw [f1]; omega)]
      exact f5 a ha
    · show (((mnS T cA cB N K i).heap.push _).setIfInBounds T.heap.size _)[T.heap.size + 1 + j]? = _
      rw [Array.getElem?_setIfInBounds_ne (by omega), Array.getElem?_push, f1]
      by_cases h : j = i
      · subst h; rw [if_pos rfl]
      · rw [if_neg (by omega)]; exact f6 j (by omega)
theorem mnS_succ (T : State) (cA cB : ClassId) (N K i : Nat) : mnS T cA cB N K (i + 1) = ((mnS T cA cB N K i).pushCell (arrV cB K fun _ => .int 0)).setCell T.heap.size ((arrV cA N fun j => if j < i then .ref (T.heap.size + 1 + j) else .null).setSlot i (.ref (T.heap.size + 1 + i))) := by
  show State.setCell _ _ _ = _
  rw [arrV_store]
  congr 2
  funext j
  unfold updV
  by_cases h : j = i
  · subst h; rw [if_pos rfl, if_pos (by omega)]
  · rw [if_neg h]
    show _ = (if j < i then Value.ref (T.heap.size + 1 + j) else Value.null)
    by_cases g : j < i
    · rw [if_pos g, if_pos (by omega)]
    · rw [if_neg g, if_neg (by omega)]
theorem mn_inner {cB comp : ClassId} {kB : Class} {n : Int32} (hk : s.vm.classes[cB]? = some kB) (hkind : kB.kind = .array comp .int) (hn : ¬ n < 0)
    (h1 : n.toNatClampNeg ≤ e.platform.arrayLengthLimit) (h2 : n.toNatClampNeg * componentBytes .int ≤ e.platform.maxHeapBytes) (h3 : s.heap.size < e.platform.maxCells) (h4 : s.slotsUsed + n.toNatClampNeg ≤ e.platform.maxSlots)
    {Q : Addr → Pre} (hq : ∀ d' acts', Q s.heap.size d' acts' (s.pushCell (arrV cB n.toNatClampNeg fun _ => .int 0))) : wp (multianewarray.make cB [n]) Q E e d acts s := by
  rw [multianewarray.make]
  simp only [wp_bind', W.ite, hn, if_false, wp_pure', W.theClass, hk, Option.some.injEq, exists_eq_left', hkind]
  exact mn_new hk hkind rfl h1 h2 h3 h4 hq
theorem mn_loop {T : State} {cA cB comp : ClassId} {kA kB : Class} {k : Int32} {N : Nat} (hkA : T.vm.classes[cA]? = some kA) (hkindA : kA.kind = .array cB (.array .int)) (hkB : T.vm.classes[cB]? = some kB) (hkindB : kB.kind = .array comp .int)
    (hk : ¬ k < 0) (h3 : k.toNatClampNeg ≤ e.platform.arrayLengthLimit) (h4 : k.toNatClampNeg * componentBytes .int ≤ e.platform.maxHeapBytes)
    (h5 : T.heap.size + (1 + N) ≤ e.platform.maxCells) (h6 : T.slotsUsed + (N + N * k.toNatClampNeg) ≤ e.platform.maxSlots)
    {Q : Addr → Pre} (hq : ∀ d' acts', Q T.heap.size d' acts' (mnS T cA cB N k.toNatClampNeg N)) :
    wp (do
      forIn [:N] PUnit.unit fun i _ => do
        let a ← multianewarray.make cB [k]
        writeLoc T.heap.size i (Value.ref a)
        Pure.pure (ForInStep.yield PUnit.unit)
      Pure.pure T.heap.size : Sem Addr) Q E e d acts (mnS T cA cB N k.toNatClampNeg 0) := by
  rw [wp_bind', Std.Legacy.Range.forIn_eq_forIn_range']
  refine wp_forIn_inv (fun rest S => ∃ i, i + rest.length = N ∧ rest = List.range' i rest.length ∧ S = mnS T cA cB N k.toNatClampNeg i) _ _ ⟨0, ?_, ?_, rfl⟩ ?_ ?_
  · simp [Std.Legacy.Range.size]
  · simp [Std.Legacy.Range.size]
  · rintro x rest S d' acts' Q' ⟨i, hi, hr, rfl⟩ hQ
    rw [List.length_cons, List.range'_succ] at hr
    obtain ⟨rfl, hr⟩ := List.cons.inj hr
    rw [List.length_cons] at hi
    obtain ⟨f1, f2, f3, f4, f5, f6⟩ := mnS_facts T cA cB N k.toNatClampNeg x
    have hm : x * k.toNatClampNeg + k.toNatClampNeg ≤ N * k.toNatClampNeg := by
      rw [← Nat.succ_mul]
      exact Nat.mul_le_mul_right _ (by omega)
    rw [wp_bind']
    refine mn_inner (by rw [f3]; exact hkB) hkindB hk h3 h4 (by rw [f1]; omega) (by rw [f2]; omega) (fun d1 acts1 => ?_)
    simp only [wp_bind', W.writeLoc, wp_pure']
    refine ⟨arrV cA N fun j => if j < x then .ref (T.heap.size + 1 + j) else .null, ?_, (fun h => by cases h), (by rw [arrV_size]; omega), ?_, ?_⟩
    · show ((mnS T cA cB N k.toNatClampNeg x).heap.push _)[T.heap.size]? = _
      rw [Array.getElem?_push, if_neg (by rw [f1]; omega)]
      exact f4
    · show (mnS T cA cB N k.toNatClampNeg x).fitsSlot cA .none x _ = true
      exact mn_fits (by rw [f3]; exact hkA) hkindA rfl x
    · refine hQ _ _ _ ⟨x + 1, by omega, hr, ?_⟩
      rw [mnS_succ, f1]
  · rintro S d' acts' ⟨i, hi, -, rfl⟩
    rw [wp_pure']
    rw [show i = N from hi]
    exact hq _ _
theorem mn_make {T : State} {cA cB comp : ClassId} {kA kB : Class} {n k : Int32} (hkA : T.vm.classes[cA]? = some kA) (hkindA : kA.kind = .array cB (.array .int)) (hkB : T.vm.classes[cB]? = some kB) (hkindB : kB.kind = .array comp .int)
    (hn : ¬ n < 0) (hk : ¬ k < 0) (h1 : n.toNatClampNeg ≤ e.platform.arrayLengthLimit) (h2 : n.toNatClampNeg * componentBytes (.array .int) ≤ e.platform.maxHeapBytes)
    (h3 : k.toNatClampNeg ≤ e.platform.arrayLengthLimit) (h4 : k.toNatClampNeg * componentBytes .int ≤ e.platform.maxHeapBytes)
    (h5 : T.heap.size + (1 + n.toNatClampNeg) ≤ e.platform.maxCells) (h6 : T.slotsUsed + (n.toNatClampNeg + n.toNatClampNeg * k.toNatClampNeg) ≤ e.platform.maxSlots)
    {Q : Addr → Pre} (hq : ∀ d' acts', Q T.heap.size d' acts' (mnS T cA cB n.toNatClampNeg k.toNatClampNeg n.toNatClampNeg)) : wp (multianewarray.make cA [n, k]) Q E e d acts T := by
  rw [multianewarray.make]
  simp only [wp_bind', W.ite, hn, if_false, wp_pure', W.theClass, hkA, Option.some.injEq, exists_eq_left', hkindA]
  refine mn_new hkA hkindA rfl h1 h2 (by omega) (by omega) (fun d' acts' => ?_)
  have hf : List.find? (fun x => decide (x < 0)) [k] = none := by simp [hk]
  rw [hf]
  simp only [W.ite]
  split
  · exact mn_loop hkA hkindA hkB hkindB hk h3 h4 h5 h6 hq
  · exact mn_loop hkA hkindA hkB hkindB hk h3 h4 h5 h6 hq
end MNWORDS
section MNSTAND
variable {p : Program} {l : Launch} {e : Env} {R : Room} {s : State} {m : MethodId} {args : Array Value} {below : List Frame} {meth : Method} {c : Code} {T : State} {locs : List Loc} {cells slots : Nat}
theorem mn_over {args : Array Value} {first s : State} {o : Option Outcome} {idx : List Nat} {t : FieldType} (h : (Cond.arrayOver (.array t)).holds args first o s idx = true) :
    ∃ comp c k, s.vm.findClass (FieldType.array t).toString = some comp ∧ s.vm.findClass ("[" ++ (FieldType.array t).toString) = some c ∧ s.vm.classes[c]? = some k ∧ k.kind = .array comp (.array t) := by
  simp only [Cond.holds, Cond.value, beq_iff_eq] at h
  obtain ⟨comp, hcomp, h⟩ := Option.bind_eq_some_iff.mp h
  obtain ⟨c, hi, h⟩ := Option.bind_eq_some_iff.mp h
  obtain ⟨k, hk, hb⟩ := Option.map_eq_some_iff.mp h
  obtain ⟨hlt, hp, -⟩ := Array.findIdx?_eq_some_iff_getElem.mp hi
  rw [(Array.getElem?_eq_some_iff.mp hk).2] at hp
  cases hkind : k.kind with
  | array component ty =>
    rw [hkind] at hb hp
    simp only [Bool.and_eq_true, decide_eq_true_eq, beq_iff_eq] at hb hp
    exact ⟨comp, c, k, hcomp, hb.2, hk, by rw [hkind, hp, hb.1]⟩
  | _ => rw [hkind] at hb; cases hb
theorem mn_stand (X : Stand p l e R s m args below meth c T locs cells slots) (cA cB : ClassId) (N K : Nat) : ∀ i, Stand p l e R s m args below meth c (mnS T cA cB N K i) locs (cells + 1 + i) (slots + N + i * K)
  | 0 => by
    have h := X.pushed (arrV cA N fun _ => .null)
    rw [arrV_size] at h
    rw [Nat.zero_mul]
    exact h
  | i + 1 => by
    have h := (mn_stand X cA cB N K i).pushed (arrV cB K fun _ => .int 0)
    obtain ⟨f1, -, -, f4, -, -⟩ := mnS_facts T cA cB N K i
    have f5 : ((mnS T cA cB N K i).pushCell (arrV cB K fun _ => .int 0)).heap[T.heap.size]? = some (arrV cA N fun j => if j < i then .ref (T.heap.size + 1 + j) else .null) := by
      show ((mnS T cA cB N K i).heap.push _)[T.heap.size]? = _
      rw [Array.getElem?_push, if_neg (by rw [f1]; omega)]
      exact f4
    have h2 := (h.stored f5 i (.ref (T.heap.size + 1 + i))).dropFresh (fun x hx => by rw [List.mem_singleton.mp hx]; exact X.heapGrown)
    rw [← mnS_succ, arrV_size] at h2
    rw [Nat.succ_mul, ← Nat.add_assoc, ← Nat.add_assoc]
    exact h2
theorem mn_law (X : Stand p l e R s m args below meth c T locs cells slots) (hexec : p.tables.exec = Jvm.exec) {own : String} {index : Nat} (hown : s.vm.findClass own = some m.cls)
    (hclink : (Cond.classLink own index "[[I").before args s = true) (hover : (Cond.arrayOver (.array .int)).before args s = true) (harr : (Cond.arrayClass .int).before args s = true)
    {g : JFrame} (hg : g.method = m) (hdg : decode c.code g.pc = .ok (.multianewarray index 2, 4)) {n k : Int32} {rest : List Value} (hstack : g.stack = .int k :: .int n :: rest) (N K : Nat)
    (hN : n.toNatClampNeg = N) (hK : k.toNatClampNeg = K) (hn : ¬ n < 0) (hk : ¬ k < 0) (hb : N ≤ 1000 ∧ K ≤ 1000) (hcells : cells + (1 + N) ≤ R.cells) (hslots : slots + (N + N * K) ≤ R.slots) :
    ∃ (vm₁ : Vm) (cA cB : ClassId), s.vm.findClass "[[I" = some cA ∧ s.vm.findClass "[I" = some cB ∧ Stand p l e R s m args below meth c (mnS (T.setVm vm₁) cA cB N K N) locs (cells + 1 + N) (slots + N + N * K) ∧
      ∀ target, Steps p.tables e below ((mnS (T.setVm vm₁) cA cB N K N).setTop { g with pc := g.pc + 4, stack := .ref T.heap.size :: rest }) target → Steps p.tables e below (T.setTop g) target := by
  subst hg hN hK
  have hpl : e.platform.magicAccessors = ({} : Platform).magicAccessors := by rw [X.admits.platform]
  have s1 : (FieldType.array .int).toString = "[I" := by first | rfl | decide
  have s2 : "[" ++ (FieldType.array .int).toString = "[[I" := by first | rfl | decide
  have s3 : "[" ++ FieldType.int.toString = "[I" := by first | rfl | decide
  obtain ⟨cB, cA, kA, hcB, hcA, hkA, hkindA⟩ := mn_over hover
  obtain ⟨cB', kB, comp, hcB', hkB, hkindB⟩ := Cond.arrayClass_spec harr
  rw [s1] at hcB
  rw [s2] at hcA
  rw [s3] at hcB'
  cases Option.some.inj (hcB.symm.trans hcB')
  obtain ⟨cA', hcA', hcl⟩ := Cond.classLink_spec hown hclink e.platform hpl
  cases Option.some.inj (hcA.symm.trans hcA')
  obtain ⟨hg₁, hwarm₁, hready₁⟩ := State.classEntry (e := e) X.warmed hcl
  generalize T.vm.noted g.method.cls index (.cls cA) = vm₁ at hg₁ hwarm₁ hready₁
  have hal : s.vm.Alike vm₁ := hwarm₁.alike
  obtain ⟨kA₁, hkA₁, heA⟩ := hal.2.2 _ _ hkA
  obtain ⟨kB₁, hkB₁, heB⟩ := hal.2.2 _ _ hkB
  have hkindA₁ : kA₁.kind = .array cB (.array .int) := by rw [heA]; exact hkindA
  have hkindB₁ : kB₁.kind = .array comp .int := by rw [heB]; exact hkindB
  obtain ⟨hr1, hr2⟩ := X.roomAbove hcells hslots
  have l1 := Launch.admits_arrayLengthLimit X.admits
  have l2 := Launch.admits_maxHeapBytes X.admits
  refine ⟨vm₁, cA, cB, hcA, hcB, mn_stand (X.noted hwarm₁) cA cB _ _ _, fun target hrest => ?_⟩
  refine Steps.instr (c := _) (by simpa using X.here) ?_
  simp [jvm, wpRun, exec, X.here.top, hexec, hdg]
  rw [multianewarray.sem, wp_bind', W.resolveClassAt_transfer (s := T.setTop g) (State.method?_setTop g X.here.top) hg₁ hready₁]
  have X₁ := X.noted hwarm₁
  show wp (Jvm.resolveClassAt index) _ _ e false [] ((T.setVm vm₁).setTop g)
  rw [W.resolveClassAt_ready (State.method?_setTop g X₁.here.top) (show ((T.setVm vm₁).setTop g).vm.classReady g.method.cls index cA from hready₁), wp_bind']
  refine (popN_top (args := [Value.int n, Value.int k]) X₁.here.top (rest := rest) hstack).mpr ?_
  simp only [List.mapM_cons, List.mapM_nil, wp_bind', wp_pure']
  refine mn_make (T := (T.setVm vm₁).setTop { g with stack := rest }) (kA := kA₁) (kB := kB₁) (comp := comp) hkA₁ hkindA₁ hkB₁ hkindB₁ hn hk (by omega) ?_ (by omega) ?_ hr1 hr2 (fun d' acts' => ?_)
  · rw [l2]; show n.toNatClampNeg * 4 ≤ _; omega
  · rw [l2]; show k.toNatClampNeg * 4 ≤ _; omega
  · rw [mnS_top]
    have X₂ := mn_stand X₁ cA cB n.toNatClampNeg k.toNatClampNeg n.toNatClampNeg
    simp [jvm, X₂.here.top]
    exact hrest
end MNSTAND
/-! arrays of arrays -/
section MANEW
variable {Γ : GX} {M : MD} {rm : Room} {mc ms : Nat} {Q : Option AV → Shp → Mem → Prop} {k n pc : Nat} {loc : List (Option AV)} {st : List AV} {S : Shp} {m : Mem} {f : Nat → Nat × Nat}
def newG (m : Mem) (o N : Nat) : Mem := (fun a j => if o ≤ a ∧ a ≤ o + N then 0 else m.1 a j, fun a j => if a = o then (if j < N then some (o + 1 + j) else none) else if o < a ∧ a ≤ o + N then none else m.2 a j)
theorem cE_newG_ne {o N x : Nat} (h : x < o) : cE Γ S (newG m o N) x = cE Γ S m x := by
  unfold cE flds newG
  simp [show ¬ (o ≤ x ∧ x ≤ o + N) by omega, show ¬ x = o by omega, show ¬ (o < x ∧ x ≤ o + N) by omega]
theorem R_manew {ix o : Nat} {zn zk : Int} (N K q o' k' n' : Nat) (hq : pc + 4 = q) (hd : decode M.2.1 pc = .ok (.multianewarray ix 2, 4)) (hw : Cond.classLink M.1.cls ix "[[I" ∈ TW) (hzn : zn = (N : Int)) (hzk : zk = (K : Int)) (hs : f o = (15, N)) (hs1 : ∀ j, j < N → f (o + 1 + j) = (12, K)) (hNK : N ≤ 1000 ∧ K ≤ 1000) (ho : o + 1 + N = o') (hlt : o' < 1000000) (hk : k + 1 + N = k') (hn : n + N + N * K = n') (hal : k' ≤ rm.cells ∧ n' ≤ rm.slots)
    (kk : R Γ M rm mc ms Q k' n' q loc (vr o :: st) (o', f) (newG m o N)) : R Γ M rm mc ms Q k n pc loc (vi zk :: vi zn :: st) (o, f) m := by
  subst hq ho hk hn hzn hzk
  intro p e s mi args below meth c H locs ls hc hZ hS hH hl
  refine ra_size (M := M) hc hZ hS hH (fun hsz => ?_)
  have hts := hc.2.2.2.2.2.2.1
  have hK := hc.2.2.2.2.2.2.2.2.1
  have hAO := hc.2.2.2.2.2.2.2.2.2.2.1.1
  have hZ' : s.heap.size + k = gB Γ + o := hZ
  have hsz' : H.size = gB Γ + o := hsz
  have hrN : rg (N : Int) := rg_n (by omega)
  have hrK : rg (K : Int) := rg_n (by omega)
  have hclN : (iz (N : Int)).toNatClampNeg = N := by rw [iz_clamp hrN, Int.toNat_natCast]
  have hclK : (iz (K : Int)).toNatClampNeg = K := by rw [iz_clamp hrK, Int.toNat_natCast]
  have hn0 : ¬ iz (N : Int) < 0 := fun q => by have := (iz_lt0 hrN).mp q; omega
  have hk0 : ¬ iz (K : Int) < 0 := fun q => by have := (iz_lt0 hrK).mp q; omega
  intro T hT X
  obtain ⟨vm₁, cA, cB, hfA, hfC, X1, step⟩ := mn_law X hc.1 (own := M.1.cls) (index := ix) hc.2.2.2.2.2.1 (hts _ hw) hAO (hts _ ac_int) (g := F0 mi pc ls (.int (iz (K : Int)) :: .int (iz (N : Int)) :: st.map (tr Γ))) rfl (by rw [hc.2.1]; exact hd) rfl N K hclN hclK hn0 hk0 hNK (by have := hal.1; omega) (by have := hal.2; omega)
  have hTs : (T.setVm vm₁).heap.size = gB Γ + o := by show T.heap.size = _; rw [hT]; exact hsz
  have hcA : cA = gC Γ 3 := Option.some.inj (hfA.symm.trans (hK.2 3 (gC Γ 3, .array .int) rfl).2)
  have hco : cB = gC Γ 0 := Option.some.inj (hfC.symm.trans (hK.2 0 (gC Γ 0, .int) rfl).2)
  subst hcA hco
  obtain ⟨f1, -, -, f2, fo, fi⟩ := mnS_facts (T.setVm vm₁) (gC Γ 3) (gC Γ 0) N K N
  generalize hFl : mnS (T.setVm vm₁) (gC Γ 3) (gC Γ 0) N K N = U at X1 step f1 f2 fo fi
  rw [hTs] at f1 f2
  have fo2 : ∀ q : Nat, q < H.size → U.heap[q]? = H[q]? := fun q h => (fo q (by rw [hTs, ← hsz']; exact h)).trans (by show T.heap[q]? = _; rw [hT])
  have hH1 : RepH Γ (o + 1 + N, f) (newG m o N) U.heap := by
    refine ⟨hlt, fun i x hx => ?_⟩
    have hi : i < o + 1 + N := by
      have := (List.getElem?_eq_some_iff.mp hx).1
      rw [wcl_len] at this
      exact this
    rw [wcl_at (S := (o + 1 + N, f)) hi] at hx
    cases hx
    rcases (show i < o ∨ i = o ∨ o < i by omega) with h | h | h
    · show va_at (gD Γ) vwCl (gB Γ + i, cE Γ (o, f) (newG m o N) i) U.heap
      rw [cE_newG_ne h]
      exact (hH.2 i _ (wcl_at (S := (o, f)) h)).kept (fo2 (gB Γ + i) (by omega))
    · subst h
      show va_at (gD Γ) vwCl (gB Γ + i, cE Γ (i, f) (newG m i N) i) U.heap
      rw [cE_ref (t := 15) (len := N) hs (by omega)]
      show U.heap[gB Γ + i]? = some (vp_cell (gC Γ 3) (N, .inr (.inr (.inr (.inr (fun j => ((newG m i N).2 i j).map (adr Γ)))))))
      rw [vp_cell_q, f2]
      congr 2
      funext j
      simp only [newG, if_true]
      by_cases hj : j < N
      · rw [if_pos hj, if_pos hj]
        show Value.ref (gB Γ + i + 1 + j) = Value.ref (adr Γ (i + 1 + j))
        have ej : adr Γ (i + 1 + j) = gB Γ + i + 1 + j := by
          unfold adr
          rw [if_pos (by omega)]
          omega
        rw [ej]
      · rw [if_neg hj, if_neg hj]
        rfl
    · obtain ⟨j, rfl⟩ : ∃ j, i = o + 1 + j := ⟨i - (o + 1), by omega⟩
      have hj : j < N := by omega
      show va_at (gD Γ) vwCl (gB Γ + (o + 1 + j), cE Γ (o, f) (newG m o N) (o + 1 + j)) U.heap
      rw [cE_arr (t := 12) (len := K) (hs1 j hj) (by omega) (by omega)]
      show U.heap[gB Γ + (o + 1 + j)]? = some (vp_cell (gC Γ 0) (K, .inl (fun i => iz ((newG m o N).1 (o + 1 + j) i))))
      have fj := fi j hj
      rw [hTs] at fj
      rw [vp_cell_i, show gB Γ + (o + 1 + j) = gB Γ + o + 1 + j by omega, fj]
      congr 2
      funext i
      simp only [newG]
      rw [if_pos (by omega)]
      rfl
  have e1 : tr Γ (vr o) = .ref T.heap.size := by rw [tr_ref hH1 (by show o < o + 1 + N; omega), hT, hsz']
  obtain ⟨t, a1, b1⟩ := kk p e s mi args below meth c U.heap locs ls hc (by show s.heap.size + (k + 1 + N) = gB Γ + (o + 1 + N); omega) (hS.grow (by omega) fo2) hH1 hl U rfl X1
  have a2 : Steps p.tables e below (U.setTop (F0 mi (pc + 4) ls (.ref T.heap.size :: st.map (tr Γ)))) t := by
    rw [← e1]
    exact a1
  exact ⟨t, step t a2, b1⟩
end MANEW
