/-! the abstract world: cells by their places; values are mathematical integers and places -/
abbrev AV : Type := Int ⊕ (Int ⊕ Option Nat)
abbrev vi (z : Int) : AV := Sum.inl z
abbrev vl (z : Int) : AV := Sum.inr (Sum.inl z)
abbrev vr (o : Nat) : AV := Sum.inr (Sum.inr (some o))
abbrev vn : AV := Sum.inr (Sum.inr none)
abbrev Mem : Type := (Nat → Nat → Int) × (Nat → Nat → Option Nat)
abbrev Shp : Type := Nat × (Nat → Nat × Nat)
/-- launch; classes and slots; array classes; where the new cells begin; the literals; their bytes; the script's cell, length, ints -/
abbrev GX : Type := Launch × va_G × (Nat → ClassId) × Nat × (Nat → Nat) × (Nat → Nat) × Nat × Nat × (Nat → Int32)
def gD (Γ : GX) : va_G := Γ.2.1
def gC (Γ : GX) : Nat → ClassId := Γ.2.2.1
def gB (Γ : GX) : Nat := Γ.2.2.2.1
def gS (Γ : GX) : Nat → Nat := Γ.2.2.2.2.1
def gV (Γ : GX) : Nat → Nat := Γ.2.2.2.2.2.1
def gX (Γ : GX) : Nat := Γ.2.2.2.2.2.2.1
def gN (Γ : GX) : Nat := Γ.2.2.2.2.2.2.2.1
def gI (Γ : GX) : Nat → Int32 := Γ.2.2.2.2.2.2.2.2
def gA (Γ : GX) : Nat → Prop := fun q => gB Γ ≤ q
/-- places from 1000000 on: the literals; 2000000: the script -/
def adr (Γ : GX) (k : Nat) : Nat := if k < 1000000 then gB Γ + k else if k < 2000000 then gS Γ (k - 1000000) else gX Γ
def rv (Γ : GX) (r : Option Nat) : Value := va_rf (r.map (adr Γ))
def tr (Γ : GX) : AV → Value
  | .inl z => .int (iz z)
  | .inr (.inl z) => .long (lz z)
  | .inr (.inr r) => rv Γ r
def tyOf : Nat → Nat → FieldType
  | 0 => tyX0 | 1 => tyX1 | 2 => tyX2 | 3 => tyX3 | 4 => tyX4 | 5 => tyX5 | 6 => tyX6 | 7 => tyX7 | 8 => tyX8 | 9 => tyX9 | 10 => tyX10 | _ => tyX11
/-- 0 an int, 1 a long, 2 a reference -/
def fkd (t : FieldType) : Nat := match t with
  | .long => 1
  | .object _ => 2
  | .array _ => 2
  | _ => 0
def fv (Γ : GX) (kd : Nat) (z : Int) (r : Option Nat) : Value := if kd = 1 then .long (lz z) else if kd = 2 then rv Γ r else .int (iz z)
def nF (t : Nat) : Nat := (vwCl.getD t ("", fun _ => ("", "", "", false), 0)).2.2
def flds (Γ : GX) (m : Mem) (t o : Nat) : List Value := (List.range (nF t)).map (fun k => fv Γ (fkd (tyOf t k)) (m.1 o k) (m.2 o k))
def cE (Γ : GX) (S : Shp) (m : Mem) (o : Nat) : va_E :=
  if (S.2 o).1 < 12 then .inr ((S.2 o).1, flds Γ m (S.2 o).1 o)
  else if (S.2 o).1 < 15 then .inl (gC Γ ((S.2 o).1 - 12), (S.2 o).2, .inl (fun i => iz (m.1 o i)))
  else .inl (gC Γ ((S.2 o).1 - 12), (S.2 o).2, .inr (.inr (.inr (.inr (fun i => (m.2 o i).map (adr Γ))))))
def tys (Γ : GX) : List (ClassId × FieldType) := [(gC Γ 0, .int), (gC Γ 1, .byte), (gC Γ 2, .boolean), (gC Γ 3, .array .int), (gC Γ 4, .object RX1), (gC Γ 5, .object RX2), (gC Γ 6, .object RX7)]
def wcl (Γ : GX) (S : Shp) (m : Mem) : va_W := (List.range S.1).map (fun o => (gB Γ + o, cE Γ S m o))
def RepH (Γ : GX) (S : Shp) (m : Mem) (H : Heap) : Prop := S.1 < 1000000 ∧ va_P (gD Γ) vwCl (wcl Γ S m) H
def setI (m : Mem) (o k : Nat) (z : Int) : Mem := (fun o' k' => if o' = o ∧ k' = k then z else m.1 o' k', m.2)
def setP (m : Mem) (o k : Nat) (r : Option Nat) : Mem := (m.1, fun o' k' => if o' = o ∧ k' = k then r else m.2 o' k')
/-- a new cell of zeros -/
def newM (m : Mem) (o : Nat) : Mem := (fun o' k' => if o' = o then 0 else m.1 o' k', fun o' k' => if o' = o then none else m.2 o' k')
def newS (S : Shp) (t n : Nat) : Shp := (S.1 + 1, fun o => if o = S.1 then (t, n) else S.2 o)
theorem wcl_at {Γ : GX} {S : Shp} {m : Mem} {o : Nat} (h : o < S.1) : (wcl Γ S m)[o]? = some (gB Γ + o, cE Γ S m o) := by
  unfold wcl
  rw [List.getElem?_map, List.getElem?_range h]
  rfl
theorem wcl_len (Γ : GX) (S : Shp) (m : Mem) : (wcl Γ S m).length = S.1 := by simp [wcl]
theorem wcl_none {Γ : GX} {S : Shp} {m : Mem} {o : Nat} (h : S.1 ≤ o) : (wcl Γ S m)[o]? = none := List.getElem?_eq_none (by rw [wcl_len]; exact h)
theorem wcl_D (Γ : GX) (S : Shp) (m : Mem) : va_D (gA Γ) (wcl Γ S m) := by
  refine ⟨fun i j p q hi hj e => ?_, fun k q hk => ?_⟩
  · by_cases h1 : i < S.1
    · by_cases h2 : j < S.1
      · rw [wcl_at h1] at hi
        rw [wcl_at h2] at hj
        cases hi
        cases hj
        have : gB Γ + i = gB Γ + j := e
        omega
      · rw [wcl_none (by omega)] at hj
        cases hj
    · rw [wcl_none (by omega)] at hi
      cases hi
  · by_cases h1 : k < S.1
    · rw [wcl_at h1] at hk
      cases hk
      exact Nat.le_add_right _ _
    · rw [wcl_none (by omega)] at hk
      cases hk
/-- one cell's new contents -/
theorem wcl_set {Γ : GX} {S : Shp} {m m' : Mem} {o : Nat} {x : va_E} (hx : cE Γ S m' o = x) (hn : ∀ o', o' ≠ o → cE Γ S m' o' = cE Γ S m o') : (wcl Γ S m).set o (gB Γ + o, x) = wcl Γ S m' := by
  apply List.ext_getElem?
  intro i
  by_cases hi : i < S.1
  · by_cases e : i = o
    · subst e
      rw [List.getElem?_set_self (by rw [wcl_len]; exact hi), wcl_at hi, hx]
    · rw [List.getElem?_set_ne (Ne.symm e), wcl_at hi, wcl_at hi, hn i e]
  · rw [wcl_none (by omega), List.getElem?_eq_none]
    rw [List.length_set, wcl_len]
    omega
theorem cE_setI_ne {Γ : GX} {S : Shp} {m : Mem} {o k o' : Nat} {z : Int} (h : o' ≠ o) : cE Γ S (setI m o k z) o' = cE Γ S m o' := by
  unfold cE flds setI
  simp [h]
theorem cE_setP_ne {Γ : GX} {S : Shp} {m : Mem} {o k o' : Nat} {r : Option Nat} (h : o' ≠ o) : cE Γ S (setP m o k r) o' = cE Γ S m o' := by
  unfold cE flds setP
  simp [h]
def isLg : Option (Option AV) → Bool
  | some (some (.inr (.inl _))) => true
  | _ => false
/-- locals: a store at i; a long that it cuts is gone -/
def st1 (loc : List (Option AV)) (i : Nat) (v : AV) : List (Option AV) := match i with
  | 0 => loc.set 0 (some v)
  | j + 1 => (if isLg (loc[j]?) = true then loc.set j none else loc).set (j + 1) (some v)
def st2 (loc : List (Option AV)) (i : Nat) (v : AV) : List (Option AV) := (st1 loc i v).set (i + 1) none
def LV (Γ : GX) (ls : Array Slot) (nL : Nat) (loc : List (Option AV)) : Prop := ls.size = nL ∧ lv_wf ls ∧ ∀ (i : Nat) (v : AV), loc[i]? = some (some v) → ls[i]? = some (.val (tr Γ v))
def lvl (Γ : GX) (loc : List (Option AV)) : List (Nat × Value) := (List.range loc.length).filterMap (fun i => match loc[i]? with
  | some (some v) => some (i, tr Γ v)
  | _ => none)
theorem lvl_mem {Γ : GX} {loc : List (Option AV)} {i : Nat} {v : AV} (h : loc[i]? = some (some v)) : (i, tr Γ v) ∈ lvl Γ loc := by
  refine List.mem_filterMap.mpr ⟨i, List.mem_range.mpr (List.getElem?_eq_some_iff.mp h).1, ?_⟩
  rw [h]
theorem LV.has {Γ : GX} {ls : Array Slot} {nL : Nat} {loc : List (Option AV)} (h : LV Γ ls nL loc) : lv_has ls nL (lvl Γ loc) := by
  refine ⟨h.1, h.2.1, fun q hq => ?_⟩
  obtain ⟨i, -, hi⟩ := List.mem_filterMap.mp hq
  revert hi
  cases hv : loc[i]? with
  | none => intro hi; cases hi
  | some w =>
    cases w with
    | none => intro hi; cases hi
    | some v => intro hi; cases hi; exact h.2.2 i v hv
def cat1 : AV → Bool
  | .inr (.inl _) => false
  | _ => true
theorem cat_tr (Γ : GX) (v : AV) : (tr Γ v).category = if cat1 v = true then 1 else 2 := by
  rcases v with z | z | r
  · rfl
  · rfl
  · cases r <;> rfl
theorem isLg_cat {loc : List (Option AV)} {j : Nat} {w : AV} (h : loc[j]? = some (some w)) (hl : isLg (loc[j]?) = false) : cat1 w = true := by
  rw [h] at hl
  rcases w with z | z | r
  · rfl
  · cases hl
  · rfl
theorem st1_at {loc : List (Option AV)} {i j : Nat} {v w : AV} (h : (st1 loc i v)[j]? = some (some w)) : (j = i ∧ w = v) ∨ (j ≠ i ∧ loc[j]? = some (some w) ∧ (j + 1 = i → cat1 w = true)) := by
  by_cases e : j = i
  · subst e
    left
    refine ⟨rfl, ?_⟩
    have hl := (List.getElem?_eq_some_iff.mp h).1
    cases j with
    | zero =>
      simp only [st1] at h
      rw [List.getElem?_set_self (by simpa [st1] using hl)] at h
      cases h; rfl
    | succ j =>
      simp only [st1] at h hl
      rw [List.getElem?_set_self (by simpa using hl)] at h
      cases h; rfl
  · right
    refine ⟨e, ?_⟩
    cases i with
    | zero =>
      simp only [st1] at h
      rw [List.getElem?_set_ne (Ne.symm e)] at h
      exact ⟨h, fun q => by omega⟩
    | succ i =>
      simp only [st1] at h
      rw [List.getElem?_set_ne (Ne.symm e)] at h
      by_cases hl : isLg (loc[i]?) = true
      · rw [if_pos hl] at h
        by_cases e2 : j = i
        · subst e2
          have hlt := (List.getElem?_eq_some_iff.mp h).1
          rw [List.getElem?_set_self (by simpa using hlt)] at h
          cases h
        · rw [List.getElem?_set_ne (Ne.symm e2)] at h
          exact ⟨h, fun q => by omega⟩
      · rw [if_neg hl] at h
        refine ⟨h, fun q => ?_⟩
        have : j = i := by omega
        subst this
        exact isLg_cat h (by simpa using hl)
theorem LV.of1 {Γ : GX} {ls ls' : Array Slot} {nL i : Nat} {loc : List (Option AV)} {v : AV} (h : lv_has ls' nL ((i, tr Γ v) :: (lvl Γ loc).filter (fun q => !(q.1 == i) && !(q.1 + 1 == i && q.2.category == 2)))) : LV Γ ls' nL (st1 loc i v) := by
  refine ⟨h.1, h.2.1, fun j w hj => ?_⟩
  rcases st1_at hj with ⟨rfl, rfl⟩ | ⟨h1, h2, h3⟩
  · exact h.2.2 (j, tr Γ w) List.mem_cons_self
  · refine h.2.2 (j, tr Γ w) (List.mem_cons_of_mem _ (List.mem_filter.mpr ⟨lvl_mem h2, ?_⟩))
    have hc := cat_tr Γ w
    by_cases q : j + 1 = i
    · rw [if_pos (h3 q)] at hc
      simp [h1, hc]
    · simp [h1, q]
theorem LV.of2 {Γ : GX} {ls ls' : Array Slot} {nL i : Nat} {loc : List (Option AV)} {v : AV} (h : lv_has ls' nL ((i, tr Γ v) :: (lvl Γ loc).filter (fun q => !(q.1 == i) && (!(q.1 == i + 1) && !(q.1 + 1 == i && q.2.category == 2))))) : LV Γ ls' nL (st2 loc i v) := by
  refine ⟨h.1, h.2.1, fun j w hj => ?_⟩
  unfold st2 at hj
  by_cases e : j = i + 1
  · subst e
    have hlt := (List.getElem?_eq_some_iff.mp hj).1
    rw [List.getElem?_set_self (by simpa using hlt)] at hj
    cases hj
  · rw [List.getElem?_set_ne (Ne.symm e)] at hj
    rcases st1_at hj with ⟨rfl, rfl⟩ | ⟨h1, h2, h3⟩
    · exact h.2.2 (j, tr Γ w) List.mem_cons_self
    · refine h.2.2 (j, tr Γ w) (List.mem_cons_of_mem _ (List.mem_filter.mpr ⟨lvl_mem h2, ?_⟩))
      have hc := cat_tr Γ w
      by_cases q : j + 1 = i
      · rw [if_pos (h3 q)] at hc
        simp [h1, hc, e]
      · simp [h1, q, e]
/-- a method: its name, bytes, locals, answer -/
abbrev MD : Type := MethodName × ByteArray × Nat × Option FieldType
def lenJS : List Nat := [6, 5, 5, 5, 4, 5, 7, 4, 4, 6, 5, 4]
def bytJS : List (List Int32) := [[112, 97, 114, 105, 115, 104], [99, 108, 101, 114, 107], [116, 114, 105, 101, 100], [108, 101, 97, 114, 110], [97, 103, 101, 115], [110, 101, 118, 101, 114], [112, 105, 99, 116, 117, 114, 101], [116, 111, 119, 110], [109, 105, 108, 108], [115, 99, 104, 111, 111, 108], [99, 114, 111, 115, 115], [110, 97, 109, 101]]
def idxJS : List Nat := [46, 55, 60, 65, 77, 85, 89, 105, 110, 112, 121, 119]
def txtJS : List String := ["parish", "clerk", "tried", "learn", "ages", "never", "picture", "town", "mill", "school", "cross", "name"]
/-- what a state is known to hold beside the cells -/
def EnvS (Γ : GX) (U : State) : Prop := va_K (gD Γ) vwCl (tys Γ) U
  ∧ (∀ (own : String) (ix : Nat) (y : MethodName) (host : String), Cond.methodLinkNest own ix y host ∈ lw_tbl → va_Nw (.methodLinkNest own ix y host) U)
  ∧ ((Cond.arrayOver (.array .int)).before #[] U = true ∧ va_AO RX1 U ∧ va_AO RX2 U ∧ va_AO RX7 U)
  ∧ vk_S 12 lenJS bytJS (gS Γ) (gV Γ) (gA Γ) U U.heap
  ∧ (∀ i, i < 12 → vk_R RX5 (idxJS.getD i 0) (txtJS.getD i "") (gS Γ i) U)
  ∧ va_Z "java/lang/String" "COMPACT_STRINGS" "Z" (.int 1) (gA Γ) U U.heap
  ∧ va_Zq "jdk/internal/util/Preconditions" "SIOOBE_FORMATTER" "Ljava/util/function/BiFunction;" (gA Γ) U U.heap
  ∧ va_X (gX Γ) (gN Γ) (gI Γ) U U.heap ∧ ¬ gA Γ (gX Γ) ∧ gX Γ < U.heap.size
  ∧ gB Γ ≤ U.heap.size
theorem EnvS.to {Γ : GX} {s U : State} {H : Heap} {locs : List Loc} (h : EnvS Γ s) (hS : va_S (gA Γ) s.heap H locs) (hU : U.heap = H) (hW : s.WarmedH U.vm) : EnvS Γ U := by
  obtain ⟨h1, h2, ⟨h3, h4, h5, h6⟩, h7, h8, h9, h10, h11, h12, h13, h14⟩ := h
  subst hU
  have ha := hW.alike
  refine ⟨va_K.moved ha h1, fun own ix y host hm => va_Nw.warmM hW (h2 own ix y host hm), ⟨?_, va_AO.moved ha h4, va_AO.moved ha h5, va_AO.moved ha h6⟩, (vk_S.moved ha h7).kept hS.2.1, fun i hi => vk_R.warm hW (h8 i hi), (va_Z.moved ha h9).kept hS.2.1, (va_Zq.moved ha h10).kept hS.2.1, (va_X.moved ha h11).kept (hS.2.1 _ h13 h12), h12, Nat.lt_of_lt_of_le h13 hS.1, Nat.le_trans h14 hS.1⟩
  have e := Cond.arrayOver_setVmC (args := #[]) (s := s) ha (.array .int)
  rw [h3] at e
  exact e
theorem EnvS.calling {Γ : GX} {U : State} {g : JFrame} {mk : MethodId} {a : Array Value} (h : EnvS Γ U) : EnvS Γ (U.calling g mk a) := by
  obtain ⟨h1, h2, ⟨h3, h4, h5, h6⟩, h7, h8, h9, h10, h11, h12, h13, h14⟩ := h
  have ha : U.vm.Alike (U.calling g mk a).vm := Vm.Alike.refl U.vm
  refine ⟨va_K.moved ha h1, fun own ix y host hm => va_Nw.same rfl rfl (h2 own ix y host hm), ⟨?_, va_AO.moved ha h4, va_AO.moved ha h5, va_AO.moved ha h6⟩, vk_S.moved ha h7, fun i hi => vk_R.same rfl (h8 i hi), va_Z.moved ha h9, va_Zq.moved ha h10, va_X.moved ha h11, h12, h13, h14⟩
  exact h3
def Cx (Γ : GX) (M : MD) (p : Program) (s : State) (mi : MethodId) (args : Array Value) (meth : Method) (c : Code) : Prop :=
  p.tables.exec = Jvm.exec ∧ c.code = M.2.1 ∧ c.maxLocals = M.2.2.1 ∧ meth.sig.returnType = M.2.2.2 ∧ meth.locks = false ∧ s.vm.findClass M.1.cls = some mi.cls ∧ (∀ w ∈ TW, w.before args s = true) ∧ meth.name = M.1.name ∧ EnvS Γ s
def PcOf (Γ : GX) (as : List AV) (S : Shp) (m : Mem) : Array Value → State → Prop := va_Pc (as.map (tr Γ)) (fun U => RepH Γ S m U.heap ∧ U.heap.size = gB Γ + S.1 ∧ EnvS Γ U)
def QcOf (Γ : GX) (mc : Nat) (Q : Option AV → Shp → Mem → Prop) : Array Value → State → Outcome → State → Prop := fun _ st o t => (∃ (r : Option AV) (S' : Shp) (m' : Mem), o = .returned (r.map (tr Γ)) ∧ Q r S' m' ∧ RepH Γ S' m' t.heap ∧ st.heap.size + mc = gB Γ + S'.1) ∧ va_F (gA Γ) st t
/-- from here the method comes to its end, with Q -/
def R (Γ : GX) (M : MD) (rm : Room) (mc ms : Nat) (Q : Option AV → Shp → Mem → Prop) (k n pc : Nat) (loc : List (Option AV)) (st : List AV) (S : Shp) (m : Mem) : Prop :=
  ∀ (p : Program) (e : Env) (s : State) (mi : MethodId) (args : Array Value) (below : List Frame) (meth : Method) (c : Code) (H : Heap) (locs : List Loc) (ls : Array Slot),
    Cx Γ M p s mi args meth c → s.heap.size + k = gB Γ + S.1 → va_S (gA Γ) s.heap H locs → RepH Γ S m H → LV Γ ls M.2.2.1 loc →
    W p Γ.1 e rm s mi args below meth c H locs k n (MQ below (QcOf Γ mc Q) args s mc ms (gA Γ)) (F0 mi pc ls (st.map (tr Γ)))
/-- a method's contract -/
def C (Γ : GX) (M : MD) (fr lo mc ms : Nat) (as : List AV) (S : Shp) (m : Mem) (Q : Option AV → Shp → Mem → Prop) : Prop :=
  Met Γ.1 M.1 (.code M.1 M.2.1 M.2.2.1 M.2.2.2 :: TW) { frames := fr, cells := mc, slots := ms, locals := lo } (PcOf Γ as S m) (QcOf Γ mc Q) mc ms (gA Γ)
def argL : List AV → List (Option AV)
  | [] => []
  | v :: vs => if cat1 v = true then some v :: argL vs else some v :: none :: argL vs
theorem argL_at (Γ : GX) : ∀ (as : List AV) (off i : Nat) (v : AV) (n : Nat), (argL as ++ List.replicate n none)[i]? = some (some v) → (off + i, tr Γ v) ∈ lv_args off (as.map (tr Γ))
  | [], off, i, v, n, h => by
    simp only [argL, List.nil_append] at h
    rw [List.getElem?_replicate] at h
    split at h <;> cases h
  | a :: as, off, i, v, n, h => by
    have hc := cat_tr Γ a
    simp only [argL] at h
    simp only [List.map_cons, lv_args]
    by_cases ha : cat1 a = true
    · rw [if_pos ha] at h hc
      cases i with
      | zero => simp at h; subst h; exact List.mem_cons_self
      | succ i =>
        simp only [List.cons_append, List.getElem?_cons_succ] at h
        have := argL_at Γ as (off + 1) i v n h
        refine List.mem_cons_of_mem _ ?_
        rw [if_neg (by rw [hc]; omega)]
        rw [show off + (i + 1) = off + 1 + i by omega]
        exact this
    · rw [if_neg ha] at h hc
      cases i with
      | zero => simp at h; subst h; exact List.mem_cons_self
      | succ i =>
        cases i with
        | zero => simp at h
        | succ i =>
          simp only [List.cons_append, List.getElem?_cons_succ] at h
          have := argL_at Γ as (off + 2) i v n h
          refine List.mem_cons_of_mem _ ?_
          rw [if_pos hc]
          rw [show off + (i + 1 + 1) = off + 2 + i by omega]
          exact this
theorem lg_sl_len (Γ : GX) : ∀ as : List AV, (lg_sl (as.map (tr Γ))).length = (argL as).length
  | [] => rfl
  | a :: as => by
    have ih := lg_sl_len Γ as
    have hc := cat_tr Γ a
    simp only [lg_sl, List.map_cons, List.flatMap_cons, List.length_append, argL] at ih ⊢
    by_cases ha : cat1 a = true
    · rw [if_pos ha] at hc ⊢
      rw [if_neg (by rw [hc]; omega)]
      simp only [List.length_cons, List.length_nil]
      omega
    · rw [if_neg ha] at hc ⊢
      rw [if_pos hc]
      simp only [List.length_cons, List.length_nil]
      omega
def entL (as : List AV) (nL : Nat) : List (Option AV) := argL as ++ List.replicate (nL - (argL as).length) none
set_option maxHeartbeats 4000000 in
theorem C_of_R {Γ : GX} {M : MD} {fr lo mc ms : Nat} {as : List AV} {S : Shp} {m : Mem} {Q : Option AV → Shp → Mem → Prop} (hp : plainName M.1.cls = true) (hn : (argL as).length ≤ M.2.2.1)
    (h : R Γ M { frames := fr, cells := mc, slots := ms, locals := lo } mc ms Q 0 0 0 (entL as M.2.2.1) [] S m) : C Γ M fr lo mc ms as S m Q := by
  refine Met.ofW (cc := M.2.1) (maxL := M.2.2.1) (ret := M.2.2.2) hp rfl ?_
  intro p e s mi args below meth c s₁ B hml hv
  obtain ⟨rfl, hR, hZ, hE⟩ := hv
  have hts := atoms_spec (ws := .code M.1 M.2.1 M.2.2.1 M.2.2.2 :: TW) B.pre
  have hl := lv_entry (as.map (tr Γ)) (n := M.2.2.1) (by rw [lg_sl_len]; exact hn)
  rw [lg_entry_eq]
  refine h p e s mi _ below meth c s.heap [] _ ⟨B.exec, B.bytes, hml, B.returns, B.notSynchronized, findClass_of_methodNamed B.named, fun w hw => hts w (List.mem_cons_of_mem _ hw), (name_of_methodNamed B.named B.method).1, hE⟩ hZ va_S.rf hR ⟨hl.1, hl.2.1, fun i v hi => ?_⟩
  have := argL_at Γ as 0 i v _ hi
  rw [Nat.zero_add] at this
  exact hl.2.2 _ this
theorem R_size {p : Program} {l : Launch} {e : Env} {rm : Room} {s : State} {mi : MethodId} {args : Array Value} {below : List Frame} {meth : Method} {c : Code} {H : Heap} {locs : List Loc} {k n : Nat} {Q : State → Prop} {g : JFrame} (h : H.size ≤ s.heap.size + k → W p l e rm s mi args below meth c H locs k n Q g) : W p l e rm s mi args below meth c H locs k n Q g := by
  intro T hT X
  have hx : T.heap.size ≤ s.heap.size + k := X.same.2.2.1
  rw [hT] at hx
  exact h hx T hT X
theorem Rep_low {Γ : GX} {S : Shp} {m : Mem} {H : Heap} (h : RepH Γ S m H) (hb : gB Γ ≤ H.size) : gB Γ + S.1 ≤ H.size := by
  by_cases h0 : S.1 = 0
  · omega
  · have h1 : S.1 - 1 < S.1 := by omega
    have h2 := (h.2 _ _ (wcl_at h1)).lt
    have h3 : gB Γ + (S.1 - 1) < H.size := h2
    omega
