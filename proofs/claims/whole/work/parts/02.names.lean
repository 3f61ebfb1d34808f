/-! ===== BEGIN words of one list among another's, by their places ===== -/
theorem goodIn_r {big : List Cond} (ws : List Cond) (ps : List Nat) (hp : ws = ps.filterMap (fun i => big[i]?)) (h : ws.all goodWord = true) : GoodIn big ws := by
  intro w hw
  have h1 := List.all_eq_true.mp h w hw
  rw [hp] at hw
  obtain ⟨i, -, hi⟩ := List.mem_filterMap.mp hw
  have hm : w ∈ big := by first | exact List.mem_of_getElem? hi | exact List.getElem?_mem hi
  exact ⟨hm, good_of_word h1⟩
theorem goodIn_app {big a b : List Cond} (ha : GoodIn big a) (hb : GoodIn big b) : GoodIn big (a ++ b) := fun w h => (List.mem_append.mp h).elim (ha w) (hb w)
theorem goodIn_ca {big a b : List Cond} {c : Cond} (ha : GoodIn big (c :: a)) (hb : GoodIn big b) : GoodIn big (c :: (a ++ b)) := fun w h => (List.mem_cons.mp h).elim (fun e => ha w (List.mem_cons.mpr (Or.inl e))) (fun h => (List.mem_append.mp h).elim (fun h => ha w (List.mem_cons.mpr (Or.inr h))) (hb w))
theorem goodIn_sub {big ws : List Cond} (hm : ∀ w ∈ ws, w ∈ big) (h : ws.all goodWord = true) : GoodIn big ws := fun w hw => ⟨hm w hw, good_of_word (List.all_eq_true.mp h w hw)⟩
/-! ===== END ===== -/

/-! ===== BEGIN new T[n][m]: the outer array a place, the inner ones among the pooled ===== -/
/-- f, but v at every address of l -/
def vr_up {α : Type} (f : Nat → α) (l : List Nat) (v : α) : Nat → α := fun a => if a ∈ l then v else f a
theorem vr_up_in {α : Type} {f : Nat → α} {l : List Nat} {v : α} {a : Nat} (h : a ∈ l) : vr_up f l v a = v := if_pos h
theorem vr_up_ne {α : Type} {f : Nat → α} {l : List Nat} {v : α} {a : Nat} (h : a ∉ l) : vr_up f l v a = f a := if_neg h
theorem vr_rows {L l : List Nat} {f : Nat → va_E} {e : va_E} (h : ∀ a, a ∈ l → a ∉ L) : va_pl L f ++ l.map (fun a => (a, e)) = va_pl (L ++ l) (vr_up f l e) := by
  unfold va_pl
  rw [List.map_append]
  congr 1
  · apply List.map_congr_left
    intro a ha
    rw [vr_up_ne (fun q => h a q ha)]
  · apply List.map_congr_left
    intro a ha
    rw [vr_up_in ha]
theorem vr_lay {X rows : va_W} {x : Nat × va_E} {pl : va_W} {D : va_G} {cl : List vw_C} {H : Heap} (hP : va_P D cl (((X ++ pl) ++ [x]) ++ rows) H) : va_P D cl ((X ++ [x]) ++ (pl ++ rows)) H := by
  rw [List.append_assoc (X ++ pl)] at hP
  have h := va_P.swap hP
  rw [← List.append_assoc X] at h
  have h2 := va_P.swap h
  rw [List.append_assoc (X ++ [x])] at h2
  exact h2
theorem vr_layD {X rows : va_W} {x : Nat × va_E} {pl : va_W} {A : Nat → Prop} (hD : va_D A (((X ++ pl) ++ [x]) ++ rows)) : va_D A ((X ++ [x]) ++ (pl ++ rows)) := by
  rw [List.append_assoc (X ++ pl)] at hD
  have h := va_D.swap hD
  rw [← List.append_assoc X] at h
  have h2 := va_D.swap h
  rw [List.append_assoc (X ++ [x])] at h2
  exact h2
theorem vr_outer (c : ClassId) (N h0 : Nat) : ∀ i : Nat, Jvm.Free.Multi.outerC c N h0 i = arrV c N (fun j => va_rf (if j < i then some (h0 + 1 + j) else none))
  | 0 => by
    show ({ cls := c, slots := Array.replicate N .null, vm := .none } : Cell) = _
    rw [arrV_new]
    refine congrArg (arrV c N) (funext fun j => ?_)
    simp [va_rf]
  | i + 1 => by
    show (Jvm.Free.Multi.outerC c N h0 i).setSlot i (.ref (h0 + 1 + i)) = _
    rw [vr_outer c N h0 i, arrV_store]
    refine congrArg (arrV c N) (funext fun j => ?_)
    by_cases e : j = i
    · subst e
      simp [updV, va_rf]
    · by_cases h : j < i
      · simp [updV, e, h, Nat.lt_succ_of_lt h]
      · simp [updV, e, h, show ¬ j < i + 1 by omega]
section VGM
variable {p : Program} {l : Launch} {e : Env} {R : Room} {s : State} {m : MethodId} {args : Array Value} {below : List Frame} {meth : Method} {c : Code} {H : Heap} {locs : List Loc} {cells slots : Nat} {Q : State → Prop}
variable {cc : ByteArray} {pc : Nat} {ls : Array Slot} {rest : List Value} {D : va_G} {cl : List vw_C} {A : Nat → Prop} {a : Nat} {tys : List (ClassId × FieldType)} {ws : va_W} {H0 : Heap}
theorem va_mna {X : va_W} {L : List Nat} {f : Nat → va_E} {cc : ByteArray} (hexec : p.tables.exec = Jvm.exec) (hb : c.code = cc) {own : String} {index : Nat} {ty : FieldType} {cy : ClassId} (hown : s.vm.findClass own = some m.cls) (hclink : (Cond.classLink own index ("[" ++ (FieldType.array ty).toString)).before args s = true) (hover : va_AOA ty s) (harr : (Cond.arrayClass ty).before args s = true) (hcy : s.vm.findClass (FieldType.array ty).toString = some cy)
    (hK : va_K D cl tys s) (hP : va_P D cl (X ++ va_pl L f) H) (hD : va_D A (X ++ va_pl L f)) (hS : va_S A H0 H locs) (hA : ∀ q, H0.size ≤ q → A q) {n k : Int32} {N' K' : Nat} {z : vp_A} (hn : ¬ n < 0) (hk : ¬ k < 0) (hN : n.toNatClampNeg = N') (hM : k.toNatClampNeg = K')
    (hb1 : N' * 4 ≤ 536870912) (hb2 : K' * componentBytes ty ≤ 536870912) (hb3 : K' ≤ 536870912) (hdf : fits ty (defaultValue ty) = true) (hdd : (defaultValue ty).isDefault = true) (hcells : cells + (1 + N') ≤ R.cells) (hslots : slots + (N' + N' * K') ≤ R.slots) (hz : ∀ c : ClassId, Jvm.Free.Multi.innerC c K' (defaultValue ty) = vp_cell c z) (hdg : decode cc pc = .ok (.multianewarray index 2, 4))
    (kk : ∀ (q : Nat) (r : Nat → Nat) (cA : ClassId) (H1 : Heap), (∀ i j : Nat, i < N' → j < N' → r i = r j → i = j) → (∀ i : Nat, i < N' → r i ∉ L) → va_K D cl (tys ++ [(cA, .array ty)]) s →
      va_P D cl ((X ++ [(q, .inl (cA, N', .inr (.inr (.inr (.inr (fun i => if i < N' then some (r i) else none))))))]) ++ va_pl (L ++ (List.range N').map r) (vr_up f ((List.range N').map r) (.inl (cy, z)))) H1 → va_D A ((X ++ [(q, .inl (cA, N', .inr (.inr (.inr (.inr (fun i => if i < N' then some (r i) else none))))))]) ++ va_pl (L ++ (List.range N').map r) (vr_up f ((List.range N').map r) (.inl (cy, z)))) → va_S A H0 H1 locs →
      W p l e R s m args below meth c H1 locs (cells + 1 + N') (slots + N' + N' * K') Q (F0 m (pc + 4) ls (.ref q :: rest))) : W p l e R s m args below meth c H locs cells slots Q (F0 m pc ls (.int k :: .int n :: rest)) := by
  subst hN
  subst hM
  intro T hT Xs
  obtain ⟨vm₁, cA, comp, -, fA, fC, hO, -, X', step⟩ := Xs.multianewarray2F hexec hown hclink (va_AOA.use hover) harr (g := F0 m pc ls (.int k :: .int n :: rest)) rfl (by rw [hb]; exact hdg) rfl hn hk hb1 hb2 hb3 hdf hdd hcells hslots
  have ec : some cy = some comp := hcy.symm.trans fC
  cases ec
  generalize hF : Jvm.Free.Multi.fill (T.setVm vm₁) cA cy n.toNatClampNeg k.toNatClampNeg (defaultValue ty) n.toNatClampNeg = F at X' step
  have hTh : (T.setVm vm₁).heap = H := hT
  obtain ⟨f1, f2, -, -⟩ := Jvm.Free.Multi.fill_facts (T.setVm vm₁) cA cy n.toNatClampNeg k.toNatClampNeg (defaultValue ty) n.toNatClampNeg
  rw [hF, hTh] at f1 f2
  have hold : ∀ x : Nat, x < H.size → F.heap[x]? = H[x]? := fun x hx => by
    have := Jvm.Free.Multi.fill_old (T.setVm vm₁) cA cy n.toNatClampNeg k.toNatClampNeg (defaultValue ty) (a := x) (by rw [hTh]; exact hx) n.toNatClampNeg
    rw [hF, hTh] at this
    exact this
  have hrow : ∀ j : Nat, j < n.toNatClampNeg → F.heap[H.size + 1 + j]? = some (vp_cell cy z) := fun j hj => by
    have := Jvm.Free.Multi.fill_inner (T.setVm vm₁) cA cy n.toNatClampNeg k.toNatClampNeg (defaultValue ty) n.toNatClampNeg j hj
    rw [hF, hTh, hz] at this
    exact this
  have hout : Jvm.Free.Multi.outerC cA n.toNatClampNeg H.size n.toNatClampNeg = vp_cell cA (n.toNatClampNeg, .inr (.inr (.inr (.inr (fun i => if i < n.toNatClampNeg then some (H.size + 1 + i) else none))))) := by
    rw [vp_cell_q]
    exact vr_outer cA n.toNatClampNeg H.size n.toNatClampNeg
  rw [hout] at f2
  have hlt : ∀ a, a ∈ L → a < H.size := fun a ha => by
    obtain ⟨k9, hk9⟩ := va_pl_get (X := X) (f := f) ha
    exact (hP k9 _ hk9).lt
  have hnl : ∀ i : Nat, i < n.toNatClampNeg → H.size + 1 + i ∉ L := fun i _ h => by
    have := hlt _ h
    omega
  have hnm : ∀ a, a ∈ (List.range n.toNatClampNeg).map (fun i => H.size + 1 + i) → a ∉ L := fun a ha h => by
    obtain ⟨i, -, rfl⟩ := List.mem_map.mp ha
    have := hlt _ h
    omega
  have hP0 : va_P D cl (X ++ va_pl L f) F.heap := hP.kept (fun k9 x hx => hold x.1 ((hP k9 x hx).lt))
  have hP1 : va_P D cl ((X ++ va_pl L f) ++ [(H.size, .inl (cA, n.toNatClampNeg, .inr (.inr (.inr (.inr (fun i => if i < n.toNatClampNeg then some (H.size + 1 + i) else none))))))]) F.heap := hP0.app (fun k9 x hx => by
    have h0 : k9 < 1 := (List.getElem?_eq_some_iff.mp hx).1
    rw [show k9 = 0 by omega] at hx
    cases hx
    exact f2)
  have hP2 : va_P D cl (((X ++ va_pl L f) ++ [(H.size, .inl (cA, n.toNatClampNeg, .inr (.inr (.inr (.inr (fun i => if i < n.toNatClampNeg then some (H.size + 1 + i) else none))))))]) ++ ((List.range n.toNatClampNeg).map (fun i => H.size + 1 + i)).map (fun a => (a, .inl (cy, z)))) F.heap := hP1.app (fun k9 x hx => by
    obtain ⟨a, ha, rfl⟩ := List.mem_map.mp (List.mem_of_getElem? hx)
    obtain ⟨i, hi, rfl⟩ := List.mem_map.mp ha
    exact hrow i (List.mem_range.mp hi))
  have hD2 : va_D A (((X ++ va_pl L f) ++ [(H.size, .inl (cA, n.toNatClampNeg, .inr (.inr (.inr (.inr (fun i => if i < n.toNatClampNeg then some (H.size + 1 + i) else none))))))]) ++ ((List.range n.toNatClampNeg).map (fun i => H.size + 1 + i)).map (fun a => (a, .inl (cy, z)))) := by
    have hD1 := hD.push (e := .inl (cA, n.toNatClampNeg, .inr (.inr (.inr (.inr (fun i => if i < n.toNatClampNeg then some (H.size + 1 + i) else none)))))) hP rfl (hA _ hS.1)
    generalize hW1 : (X ++ va_pl L f) ++ [(H.size, .inl (cA, n.toNatClampNeg, .inr (.inr (.inr (.inr (fun i => if i < n.toNatClampNeg then some (H.size + 1 + i) else none))))))] = W1 at hD1 hP1 ⊢
    have hle : ∀ (k9 : Nat) (x : Nat × va_E), W1[k9]? = some x → x.1 ≤ H.size := fun k9 x hx => by
      rw [← hW1] at hx
      by_cases hl : k9 < (X ++ va_pl L f).length
      · rw [List.getElem?_append_left hl] at hx
        exact Nat.le_of_lt ((hP k9 x hx).lt)
      · rw [List.getElem?_append_right (by omega)] at hx
        have h0 : k9 - (X ++ va_pl L f).length < 1 := (List.getElem?_eq_some_iff.mp hx).1
        rw [show k9 - (X ++ va_pl L f).length = 0 by omega] at hx
        cases hx
        exact Nat.le_refl _
    have hr : ∀ (k9 : Nat) (x : Nat × va_E), (((List.range n.toNatClampNeg).map (fun i => H.size + 1 + i)).map (fun a => ((a, .inl (cy, z)) : Nat × va_E)))[k9]? = some x → x.1 = H.size + 1 + k9 := fun k9 x hx => by
      rw [List.getElem?_map, List.getElem?_map] at hx
      by_cases h9 : k9 < n.toNatClampNeg
      · rw [List.getElem?_range h9] at hx
        cases hx
        rfl
      · have hn0 : (List.range n.toNatClampNeg)[k9]? = none := List.getElem?_eq_none (by rw [List.length_range]; omega)
        rw [hn0] at hx
        cases hx
    refine ⟨fun i j x y hi hj hxy => ?_, fun k9 x hx => ?_⟩
    · by_cases h1 : i < W1.length <;> by_cases h2 : j < W1.length
      · rw [List.getElem?_append_left h1] at hi
        rw [List.getElem?_append_left h2] at hj
        exact hD1.1 i j x y hi hj hxy
      · rw [List.getElem?_append_left h1] at hi
        rw [List.getElem?_append_right (by omega)] at hj
        have := hle _ _ hi
        have := hr _ _ hj
        omega
      · rw [List.getElem?_append_right (by omega)] at hi
        rw [List.getElem?_append_left h2] at hj
        have := hle _ _ hj
        have := hr _ _ hi
        omega
      · rw [List.getElem?_append_right (by omega)] at hi hj
        have := hr _ _ hi
        have := hr _ _ hj
        omega
    · by_cases h1 : k9 < W1.length
      · rw [List.getElem?_append_left h1] at hx
        exact hD1.2 k9 x hx
      · rw [List.getElem?_append_right (by omega)] at hx
        have := hr _ _ hx
        exact hA _ (by have := hS.1; omega)
  have hAr : ArrOfT s cA (.array ty) := fun N9 z9 => by
    obtain ⟨-, k9, hk9, cm9, hkk9⟩ := (hO 0 0 0).1
    exact ⟨(fun q hq => by cases hq), k9, hk9, cm9, hkk9⟩
  have hK2 : va_K D cl (tys ++ [(cA, .array ty)]) s := ⟨hK.1, fun k9 x hx => by
    by_cases hl : k9 < tys.length
    · rw [List.getElem?_append_left hl] at hx
      exact hK.2 k9 x hx
    · rw [List.getElem?_append_right (by omega)] at hx
      have h0 : k9 - tys.length < 1 := (List.getElem?_eq_some_iff.mp hx).1
      rw [show k9 - tys.length = 0 by omega] at hx
      cases hx
      exact ⟨hAr, fA⟩⟩
  obtain ⟨t, a1, b1⟩ := kk H.size (fun i => H.size + 1 + i) cA F.heap (fun i j _ _ h => by have h9 : H.size + 1 + i = H.size + 1 + j := h; omega) hnl hK2 (by rw [← vr_rows hnm]; exact vr_lay hP2) (by rw [← vr_rows hnm]; exact vr_layD hD2) ⟨by rw [f1]; have := hS.1; omega, fun x h1 h2 => (hold x (Nat.lt_of_lt_of_le h1 hS.1)).trans (hS.2.1 x h1 h2), hS.2.2⟩ F rfl X'
  refine ⟨t, step t ?_, b1⟩
  have e : T.heap.size = H.size := by rw [hT]
  rw [e]
  exact a1
end VGM
/-! ===== END ===== -/

def RX0 : String := "CrossOrName$Books"
def TX0 : u_T := fun k => match k with
  | 0 => ("CrossOrName$Books", "size", "I", false)
  | 1 => ("CrossOrName$Books", "pair", "[[I", true)
  | _ => ("CrossOrName$Books", "side", "[[I", true)
def tyX0 : Nat → FieldType := fun k => match k with
  | 0 => .int
  | 1 => .array (.array .int)
  | _ => .array (.array .int)
abbrev wsX00 : List Cond := u_ws RX0 TX0 3
theorem nmX0 : ∀ a, a < 3 → ∀ b, b < 3 → a ≠ b → (TX0 a).2.1 ≠ (TX0 b).2.1 := by decide +kernel
theorem tyX0_ok : ∀ k, k < 3 → parseFieldDescriptor (TX0 k).2.2.1 = some (tyX0 k) := by decide +kernel
abbrev cX0_init : ByteArray := prog_2_method_1_code
def yX0_init : MethodName := ⟨RX0, "<init>", "()V"⟩
abbrev cX0_marks : ByteArray := prog_2_method_2_code
def yX0_marks : MethodName := ⟨RX0, "marks", "()I"⟩
abbrev cX0_yearOf : ByteArray := prog_2_method_3_code
def yX0_yearOf : MethodName := ⟨RX0, "yearOf", "(I)I"⟩
abbrev cX0_append : ByteArray := prog_2_method_4_code
def yX0_append : MethodName := ⟨RX0, "append", "(IIIII)I"⟩
abbrev cX0_startSide : ByteArray := prog_2_method_5_code
def yX0_startSide : MethodName := ⟨RX0, "startSide", "(II)V"⟩
abbrev cX0_drop : ByteArray := prog_2_method_6_code
def yX0_drop : MethodName := ⟨RX0, "drop", "(I)V"⟩
abbrev cX0_copy : ByteArray := prog_2_method_7_code
def yX0_copy : MethodName := ⟨RX0, "copy", "(LCrossOrName$Books;)V"⟩
abbrev cX0_areAllBelow : ByteArray := prog_2_method_8_code
def yX0_areAllBelow : MethodName := ⟨RX0, "areAllBelow", "(I)Z"⟩
abbrev cX0_marriagesIn : ByteArray := prog_2_method_9_code
def yX0_marriagesIn : MethodName := ⟨RX0, "marriagesIn", "(I)I"⟩
abbrev cX0_groupOf : ByteArray := prog_2_method_10_code
def yX0_groupOf : MethodName := ⟨RX0, "groupOf", "(II)I"⟩
abbrev cX0_isOf : ByteArray := prog_2_method_11_code
def yX0_isOf : MethodName := ⟨RX0, "isOf", "(III)Z"⟩
abbrev cX0_marksOf : ByteArray := prog_2_method_12_code
def yX0_marksOf : MethodName := ⟨RX0, "marksOf", "(II)I"⟩
abbrev cX0_changedFrom : ByteArray := prog_2_method_13_code
def yX0_changedFrom : MethodName := ⟨RX0, "changedFrom", "(II)Z"⟩
abbrev cX0_mostApart : ByteArray := prog_2_method_14_code
def yX0_mostApart : MethodName := ⟨RX0, "mostApart", "(I)I"⟩
def RX1 : String := "CrossOrName$Choice"
def TX1 : u_T := fun k => match k with
  | 0 => ("CrossOrName$Choice", "parishes", "I", false)
  | 1 => ("CrossOrName$Choice", "from", "I", false)
  | 2 => ("CrossOrName$Choice", "to", "I", false)
  | 3 => ("CrossOrName$Choice", "sides", "I", false)
  | _ => ("CrossOrName$Choice", "trades", "I", false)
def tyX1 : Nat → FieldType := fun k => match k with
  | 0 => .int
  | 1 => .int
  | 2 => .int
  | 3 => .int
  | _ => .int
abbrev wsX10 : List Cond := u_ws RX1 TX1 5
theorem nmX1 : ∀ a, a < 5 → ∀ b, b < 5 → a ≠ b → (TX1 a).2.1 ≠ (TX1 b).2.1 := by decide +kernel
theorem tyX1_ok : ∀ k, k < 5 → parseFieldDescriptor (TX1 k).2.2.1 = some (tyX1 k) := by decide +kernel
abbrev cX1_init : ByteArray := prog_3_method_1_code
def yX1_init : MethodName := ⟨RX1, "<init>", "()V"⟩
abbrev cX1_becomeAll : ByteArray := prog_3_method_2_code
def yX1_becomeAll : MethodName := ⟨RX1, "becomeAll", "(I)V"⟩
abbrev cX1_become : ByteArray := prog_3_method_3_code
def yX1_become : MethodName := ⟨RX1, "become", "(IIIII)V"⟩
abbrev cX1_copy : ByteArray := prog_3_method_4_code
def yX1_copy : MethodName := ⟨RX1, "copy", "(LCrossOrName$Choice;)V"⟩
abbrev cX1_takes : ByteArray := prog_3_method_5_code
def yX1_takes : MethodName := ⟨RX1, "takes", "(LCrossOrName$Books;I)Z"⟩
def RX2 : String := "CrossOrName$Image"
def TX2 : u_T := fun k => match k with
  | 0 => ("CrossOrName$Image", "kept", "Z", false)
  | 1 => ("CrossOrName$Image", "books", "LCrossOrName$Books;", true)
  | 2 => ("CrossOrName$Image", "first", "LCrossOrName$Choice;", true)
  | _ => ("CrossOrName$Image", "second", "LCrossOrName$Choice;", true)
def tyX2 : Nat → FieldType := fun k => match k with
  | 0 => .boolean
  | 1 => .object "CrossOrName$Books"
  | 2 => .object "CrossOrName$Choice"
  | _ => .object "CrossOrName$Choice"
abbrev wsX20 : List Cond := u_ws RX2 TX2 4
theorem nmX2 : ∀ a, a < 4 → ∀ b, b < 4 → a ≠ b → (TX2 a).2.1 ≠ (TX2 b).2.1 := by decide +kernel
theorem tyX2_ok : ∀ k, k < 4 → parseFieldDescriptor (TX2 k).2.2.1 = some (tyX2 k) := by decide +kernel
abbrev cX2_init : ByteArray := prog_4_method_1_code
def yX2_init : MethodName := ⟨RX2, "<init>", "()V"⟩
def RX3 : String := "CrossOrName$Kinds"
def TX3 : u_T := fun k => match k with
  | 0 => ("CrossOrName$Kinds", "stale", "Z", false)
  | 1 => ("CrossOrName$Kinds", "kind", "[I", true)
  | 2 => ("CrossOrName$Kinds", "writer", "[I", true)
  | 3 => ("CrossOrName$Kinds", "books", "LCrossOrName$Books;", false)
  | _ => ("CrossOrName$Kinds", "land", "LCrossOrName$Land;", false)
def tyX3 : Nat → FieldType := fun k => match k with
  | 0 => .boolean
  | 1 => .array .int
  | 2 => .array .int
  | 3 => .object "CrossOrName$Books"
  | _ => .object "CrossOrName$Land"
abbrev wsX30 : List Cond := u_ws RX3 TX3 5
theorem nmX3 : ∀ a, a < 5 → ∀ b, b < 5 → a ≠ b → (TX3 a).2.1 ≠ (TX3 b).2.1 := by decide +kernel
theorem tyX3_ok : ∀ k, k < 5 → parseFieldDescriptor (TX3 k).2.2.1 = some (tyX3 k) := by decide +kernel
abbrev cX3_init : ByteArray := prog_5_method_1_code
def yX3_init : MethodName := ⟨RX3, "<init>", "()V"⟩
abbrev cX3_renew : ByteArray := prog_5_method_2_code
def yX3_renew : MethodName := ⟨RX3, "renew", "(LCrossOrName$Books;LCrossOrName$Land;)V"⟩
abbrev cX3_isAble : ByteArray := prog_5_method_3_code
def yX3_isAble : MethodName := ⟨RX3, "isAble", "(I)Z"⟩
abbrev cX3_writtenBy : ByteArray := prog_5_method_4_code
def yX3_writtenBy : MethodName := ⟨RX3, "writtenBy", "(II)I"⟩
abbrev cX3_firstWriter : ByteArray := prog_5_method_5_code
def yX3_firstWriter : MethodName := ⟨RX3, "firstWriter", "(I)I"⟩
abbrev cX3_kindOfName : ByteArray := prog_5_method_6_code
def yX3_kindOfName : MethodName := ⟨RX3, "kindOfName", "(I)I"⟩
abbrev cX3_isDrawn : ByteArray := prog_5_method_7_code
def yX3_isDrawn : MethodName := ⟨RX3, "isDrawn", "(I)Z"⟩
abbrev cX3_wasNamedBefore : ByteArray := prog_5_method_8_code
def yX3_wasNamedBefore : MethodName := ⟨RX3, "wasNamedBefore", "(I)Z"⟩
def RX4 : String := "CrossOrName$Land"
def TX4 : u_T := fun k => match k with
  | 0 => ("CrossOrName$Land", "parishes", "I", false)
  | 1 => ("CrossOrName$Land", "clerks", "I", false)
  | 2 => ("CrossOrName$Land", "learn", "I", false)
  | 3 => ("CrossOrName$Land", "leastAge", "I", false)
  | 4 => ("CrossOrName$Land", "greatestAge", "I", false)
  | 5 => ("CrossOrName$Land", "never", "I", false)
  | 6 => ("CrossOrName$Land", "picture", "I", false)
  | 7 => ("CrossOrName$Land", "tried", "[I", true)
  | 8 => ("CrossOrName$Land", "parish", "[[I", true)
  | _ => ("CrossOrName$Land", "clerk", "[[I", true)
def tyX4 : Nat → FieldType := fun k => match k with
  | 0 => .int
  | 1 => .int
  | 2 => .int
  | 3 => .int
  | 4 => .int
  | 5 => .int
  | 6 => .int
  | 7 => .array .int
  | 8 => .array (.array .int)
  | _ => .array (.array .int)
abbrev wsX40 : List Cond := u_ws RX4 TX4 10
theorem nmX4 : ∀ a, a < 10 → ∀ b, b < 10 → a ≠ b → (TX4 a).2.1 ≠ (TX4 b).2.1 := by decide +kernel
theorem tyX4_ok : ∀ k, k < 10 → parseFieldDescriptor (TX4 k).2.2.1 = some (tyX4 k) := by decide +kernel
abbrev cX4_init : ByteArray := prog_6_method_1_code
def yX4_init : MethodName := ⟨RX4, "<init>", "()V"⟩
abbrev cX4_clear : ByteArray := prog_6_method_2_code
def yX4_clear : MethodName := ⟨RX4, "clear", "()V"⟩
abbrev cX4_allParishes : ByteArray := prog_6_method_3_code
def yX4_allParishes : MethodName := ⟨RX4, "allParishes", "()I"⟩
abbrev cX4_marriagesOf : ByteArray := prog_6_method_4_code
def yX4_marriagesOf : MethodName := ⟨RX4, "marriagesOf", "(I)I"⟩
abbrev cX4_towns : ByteArray := prog_6_method_5_code
def yX4_towns : MethodName := ⟨RX4, "towns", "()I"⟩
abbrev cX4_writes : ByteArray := prog_6_method_6_code
def yX4_writes : MethodName := ⟨RX4, "writes", "(IIII)Z"⟩
def RX5 : String := "CrossOrName$LandReader"
def TX5 : u_T := fun k => match k with
  | 0 => ("CrossOrName$LandReader", "tape", "LCrossOrName$Tape;", false)
  | 1 => ("CrossOrName$LandReader", "draft", "LCrossOrName$Land;", false)
  | 2 => ("CrossOrName$LandReader", "at", "I", false)
  | 3 => ("CrossOrName$LandReader", "token", "I", false)
  | 4 => ("CrossOrName$LandReader", "place", "I", false)
  | 5 => ("CrossOrName$LandReader", "value", "I", false)
  | 6 => ("CrossOrName$LandReader", "seen", "I", false)
  | 7 => ("CrossOrName$LandReader", "fault", "I", false)
  | _ => ("CrossOrName$LandReader", "faultPlace", "I", false)
def tyX5 : Nat → FieldType := fun k => match k with
  | 0 => .object "CrossOrName$Tape"
  | 1 => .object "CrossOrName$Land"
  | 2 => .int
  | 3 => .int
  | 4 => .int
  | 5 => .int
  | 6 => .int
  | 7 => .int
  | _ => .int
abbrev wsX50 : List Cond := u_ws RX5 TX5 9
theorem nmX5 : ∀ a, a < 9 → ∀ b, b < 9 → a ≠ b → (TX5 a).2.1 ≠ (TX5 b).2.1 := by decide +kernel
theorem tyX5_ok : ∀ k, k < 9 → parseFieldDescriptor (TX5 k).2.2.1 = some (tyX5 k) := by decide +kernel
abbrev cX5_init : ByteArray := prog_7_method_1_code
def yX5_init : MethodName := ⟨RX5, "<init>", "()V"⟩
abbrev cX5_readLines : ByteArray := prog_7_method_2_code
def yX5_readLines : MethodName := ⟨RX5, "readLines", "(LCrossOrName$Tape;LCrossOrName$Land;)I"⟩
abbrev cX5_takeLine : ByteArray := prog_7_method_3_code
def yX5_takeLine : MethodName := ⟨RX5, "takeLine", "()V"⟩
abbrev cX5_takeParish : ByteArray := prog_7_method_4_code
def yX5_takeParish : MethodName := ⟨RX5, "takeParish", "()V"⟩
abbrev cX5_takeClerk : ByteArray := prog_7_method_5_code
def yX5_takeClerk : MethodName := ⟨RX5, "takeClerk", "()V"⟩
abbrev cX5_takeTried : ByteArray := prog_7_method_6_code
def yX5_takeTried : MethodName := ⟨RX5, "takeTried", "()V"⟩
abbrev cX5_takeOnce : ByteArray := prog_7_method_7_code
def yX5_takeOnce : MethodName := ⟨RX5, "takeOnce", "(I)V"⟩
abbrev cX5_takeWord : ByteArray := prog_7_method_8_code
def yX5_takeWord : MethodName := ⟨RX5, "takeWord", "(Ljava/lang/String;)Z"⟩
abbrev cX5_takeNumber : ByteArray := prog_7_method_9_code
def yX5_takeNumber : MethodName := ⟨RX5, "takeNumber", "(II)I"⟩
abbrev cX5_takeStop : ByteArray := prog_7_method_10_code
def yX5_takeStop : MethodName := ⟨RX5, "takeStop", "()V"⟩
abbrev cX5_refuse : ByteArray := prog_7_method_11_code
def yX5_refuse : MethodName := ⟨RX5, "refuse", "(I)V"⟩
abbrev cX5_advance : ByteArray := prog_7_method_12_code
def yX5_advance : MethodName := ⟨RX5, "advance", "()V"⟩
abbrev cX5_readRow : ByteArray := prog_7_method_13_code
def yX5_readRow : MethodName := ⟨RX5, "readRow", "()V"⟩
abbrev cX5_sortAt : ByteArray := prog_7_method_14_code
def yX5_sortAt : MethodName := ⟨RX5, "sortAt", "(I)I"⟩
abbrev cX5_isWord : ByteArray := prog_7_method_15_code
def yX5_isWord : MethodName := ⟨RX5, "isWord", "(Ljava/lang/String;)Z"⟩
def RX6 : String := "CrossOrName$Ratio"
def TX6 : u_T := fun k => match k with
  | 0 => ("CrossOrName$Ratio", "top", "J", false)
  | _ => ("CrossOrName$Ratio", "bottom", "J", false)
def tyX6 : Nat → FieldType := fun k => match k with
  | 0 => .long
  | _ => .long
abbrev wsX60 : List Cond := u_ws RX6 TX6 2
theorem nmX6 : ∀ a, a < 2 → ∀ b, b < 2 → a ≠ b → (TX6 a).2.1 ≠ (TX6 b).2.1 := by decide +kernel
theorem tyX6_ok : ∀ k, k < 2 → parseFieldDescriptor (TX6 k).2.2.1 = some (tyX6 k) := by decide +kernel
abbrev cX6_init : ByteArray := prog_8_method_1_code
def yX6_init : MethodName := ⟨RX6, "<init>", "()V"⟩
abbrev cX6_become : ByteArray := prog_8_method_2_code
def yX6_become : MethodName := ⟨RX6, "become", "(JJ)V"⟩
abbrev cX6_add : ByteArray := prog_8_method_3_code
def yX6_add : MethodName := ⟨RX6, "add", "(JJ)V"⟩
abbrev cX6_part : ByteArray := prog_8_method_4_code
def yX6_part : MethodName := ⟨RX6, "part", "(I)J"⟩
abbrev cX6_commonOf : ByteArray := prog_8_method_5_code
def yX6_commonOf : MethodName := ⟨RX6, "commonOf", "(JJ)J"⟩
def RX7 : String := "CrossOrName$Sheet"
def TX7 : u_T := fun k => match k with
  | 0 => ("CrossOrName$Sheet", "size", "I", false)
  | 1 => ("CrossOrName$Sheet", "lane", "I", false)
  | _ => ("CrossOrName$Sheet", "cells", "[I", true)
def tyX7 : Nat → FieldType := fun k => match k with
  | 0 => .int
  | 1 => .int
  | _ => .array .int
abbrev wsX70 : List Cond := u_ws RX7 TX7 3
theorem nmX7 : ∀ a, a < 3 → ∀ b, b < 3 → a ≠ b → (TX7 a).2.1 ≠ (TX7 b).2.1 := by decide +kernel
theorem tyX7_ok : ∀ k, k < 3 → parseFieldDescriptor (TX7 k).2.2.1 = some (tyX7 k) := by decide +kernel
abbrev cX7_init : ByteArray := prog_9_method_1_code
def yX7_init : MethodName := ⟨RX7, "<init>", "()V"⟩
abbrev cX7_clear : ByteArray := prog_9_method_2_code
def yX7_clear : MethodName := ⟨RX7, "clear", "(II)V"⟩
abbrev cX7_put : ByteArray := prog_9_method_3_code
def yX7_put : MethodName := ⟨RX7, "put", "(II)V"⟩
abbrev cX7_faultAs : ByteArray := prog_9_method_4_code
def yX7_faultAs : MethodName := ⟨RX7, "faultAs", "(I)I"⟩
abbrev cX7_wholeMarriages : ByteArray := prog_9_method_5_code
def yX7_wholeMarriages : MethodName := ⟨RX7, "wholeMarriages", "(II)I"⟩
def RX8 : String := "CrossOrName$Tally"
def TX8 : u_T := fun k => match k with
  | 0 => ("CrossOrName$Tally", "marks", "[I", true)
  | 1 => ("CrossOrName$Tally", "able", "[I", true)
  | _ => ("CrossOrName$Tally", "allMarks", "I", false)
def tyX8 : Nat → FieldType := fun k => match k with
  | 0 => .array .int
  | 1 => .array .int
  | _ => .int
abbrev wsX80 : List Cond := u_ws RX8 TX8 3
theorem nmX8 : ∀ a, a < 3 → ∀ b, b < 3 → a ≠ b → (TX8 a).2.1 ≠ (TX8 b).2.1 := by decide +kernel
theorem tyX8_ok : ∀ k, k < 3 → parseFieldDescriptor (TX8 k).2.2.1 = some (tyX8 k) := by decide +kernel
abbrev cX8_init : ByteArray := prog_10_method_1_code
def yX8_init : MethodName := ⟨RX8, "<init>", "()V"⟩
abbrev cX8_clear : ByteArray := prog_10_method_2_code
def yX8_clear : MethodName := ⟨RX8, "clear", "()V"⟩
abbrev cX8_add : ByteArray := prog_10_method_3_code
def yX8_add : MethodName := ⟨RX8, "add", "(IZ)V"⟩
abbrev cX8_greatestShare : ByteArray := prog_10_method_4_code
def yX8_greatestShare : MethodName := ⟨RX8, "greatestShare", "(I)I"⟩
abbrev cX8_mostMarks : ByteArray := prog_10_method_5_code
def yX8_mostMarks : MethodName := ⟨RX8, "mostMarks", "()I"⟩
def RX9 : String := "CrossOrName$Tape"
def TX9 : u_T := fun k => match k with
  | 0 => ("CrossOrName$Tape", "bytes", "[B", true)
  | _ => ("CrossOrName$Tape", "length", "I", false)
def tyX9 : Nat → FieldType := fun k => match k with
  | 0 => .array .byte
  | _ => .int
abbrev wsX90 : List Cond := u_ws RX9 TX9 2
theorem nmX9 : ∀ a, a < 2 → ∀ b, b < 2 → a ≠ b → (TX9 a).2.1 ≠ (TX9 b).2.1 := by decide +kernel
theorem tyX9_ok : ∀ k, k < 2 → parseFieldDescriptor (TX9 k).2.2.1 = some (tyX9 k) := by decide +kernel
abbrev cX9_init : ByteArray := prog_11_method_1_code
def yX9_init : MethodName := ⟨RX9, "<init>", "()V"⟩
abbrev cX9_append : ByteArray := prog_11_method_2_code
def yX9_append : MethodName := ⟨RX9, "append", "(J)Z"⟩
def RX10 : String := "CrossOrName"
def TX10 : u_T := fun k => match k with
  | 0 => ("CrossOrName", "tape", "LCrossOrName$Tape;", true)
  | 1 => ("CrossOrName", "reader", "LCrossOrName$LandReader;", true)
  | 2 => ("CrossOrName", "ours", "LCrossOrName$Land;", false)
  | 3 => ("CrossOrName", "draft", "LCrossOrName$Land;", false)
  | 4 => ("CrossOrName", "latestFault", "I", false)
  | 5 => ("CrossOrName", "books", "LCrossOrName$Books;", true)
  | 6 => ("CrossOrName", "kinds", "LCrossOrName$Kinds;", true)
  | 7 => ("CrossOrName", "choices", "[LCrossOrName$Choice;", true)
  | 8 => ("CrossOrName", "images", "[LCrossOrName$Image;", true)
  | 9 => ("CrossOrName", "sheets", "[LCrossOrName$Sheet;", true)
  | 10 => ("CrossOrName", "latestTorn", "I", false)
  | 11 => ("CrossOrName", "before", "LCrossOrName$Tally;", true)
  | 12 => ("CrossOrName", "after", "LCrossOrName$Tally;", true)
  | 13 => ("CrossOrName", "ratio", "LCrossOrName$Ratio;", true)
  | 14 => ("CrossOrName", "handsFound", "[I", true)
  | _ => ("CrossOrName", "standing", "[[I", true)
def tyX10 : Nat → FieldType := fun k => match k with
  | 0 => .object "CrossOrName$Tape"
  | 1 => .object "CrossOrName$LandReader"
  | 2 => .object "CrossOrName$Land"
  | 3 => .object "CrossOrName$Land"
  | 4 => .int
  | 5 => .object "CrossOrName$Books"
  | 6 => .object "CrossOrName$Kinds"
  | 7 => .array (.object "CrossOrName$Choice")
  | 8 => .array (.object "CrossOrName$Image")
  | 9 => .array (.object "CrossOrName$Sheet")
  | 10 => .int
  | 11 => .object "CrossOrName$Tally"
  | 12 => .object "CrossOrName$Tally"
  | 13 => .object "CrossOrName$Ratio"
  | 14 => .array .int
  | _ => .array (.array .int)
abbrev wsX100 : List Cond := u_ws RX10 TX10 16
theorem nmX10 : ∀ a, a < 16 → ∀ b, b < 16 → a ≠ b → (TX10 a).2.1 ≠ (TX10 b).2.1 := by decide +kernel
theorem tyX10_ok : ∀ k, k < 16 → parseFieldDescriptor (TX10 k).2.2.1 = some (tyX10 k) := by decide +kernel
abbrev cX10_init : ByteArray := prog_1_method_1_code
def yX10_init : MethodName := ⟨RX10, "<init>", "()V"⟩
abbrev cX10_feed : ByteArray := prog_1_method_2_code
def yX10_feed : MethodName := ⟨RX10, "feed", "(J)I"⟩
abbrev cX10_end : ByteArray := prog_1_method_3_code
def yX10_end : MethodName := ⟨RX10, "end", "(I)I"⟩
abbrev cX10_land : ByteArray := prog_1_method_4_code
def yX10_land : MethodName := ⟨RX10, "land", "()I"⟩
abbrev cX10_fault : ByteArray := prog_1_method_5_code
def yX10_fault : MethodName := ⟨RX10, "fault", "()I"⟩
abbrev cX10_told : ByteArray := prog_1_method_6_code
def yX10_told : MethodName := ⟨RX10, "told", "(I)I"⟩
abbrev cX10_parish : ByteArray := prog_1_method_7_code
def yX10_parish : MethodName := ⟨RX10, "parish", "(II)I"⟩
abbrev cX10_clerk : ByteArray := prog_1_method_8_code
def yX10_clerk : MethodName := ⟨RX10, "clerk", "(II)I"⟩
abbrev cX10_marry : ByteArray := prog_1_method_9_code
def yX10_marry : MethodName := ⟨RX10, "marry", "(IIIII)I"⟩
abbrev cX10_set : ByteArray := prog_1_method_10_code
def yX10_set : MethodName := ⟨RX10, "set", "(IIII)I"⟩
abbrev cX10_of : ByteArray := prog_1_method_11_code
def yX10_of : MethodName := ⟨RX10, "of", "(II)I"⟩
abbrev cX10_has : ByteArray := prog_1_method_12_code
def yX10_has : MethodName := ⟨RX10, "has", "(III)I"⟩
abbrev cX10_kind : ByteArray := prog_1_method_13_code
def yX10_kind : MethodName := ⟨RX10, "kind", "(II)I"⟩
abbrev cX10_writer : ByteArray := prog_1_method_14_code
def yX10_writer : MethodName := ⟨RX10, "writer", "(II)I"⟩
abbrev cX10_apart : ByteArray := prog_1_method_15_code
def yX10_apart : MethodName := ⟨RX10, "apart", "(II)I"⟩
abbrev cX10_tear : ByteArray := prog_1_method_16_code
def yX10_tear : MethodName := ⟨RX10, "tear", "(I)I"⟩
abbrev cX10_choose : ByteArray := prog_1_method_17_code
def yX10_choose : MethodName := ⟨RX10, "choose", "(IIIIII)I"⟩
abbrev cX10_many : ByteArray := prog_1_method_18_code
def yX10_many : MethodName := ⟨RX10, "many", "(II)I"⟩
abbrev cX10_share : ByteArray := prog_1_method_19_code
def yX10_share : MethodName := ⟨RX10, "share", "(II)I"⟩
abbrev cX10_best : ByteArray := prog_1_method_20_code
def yX10_best : MethodName := ⟨RX10, "best", "(IIII)I"⟩
abbrev cX10_pairs : ByteArray := prog_1_method_21_code
def yX10_pairs : MethodName := ⟨RX10, "pairs", "(II)I"⟩
abbrev cX10_spared : ByteArray := prog_1_method_22_code
def yX10_spared : MethodName := ⟨RX10, "spared", "(II)I"⟩
abbrev cX10_learnt : ByteArray := prog_1_method_23_code
def yX10_learnt : MethodName := ⟨RX10, "learnt", "(IIII)I"⟩
abbrev cX10_bounds : ByteArray := prog_1_method_24_code
def yX10_bounds : MethodName := ⟨RX10, "bounds", "(IIII)I"⟩
abbrev cX10_tens : ByteArray := prog_1_method_25_code
def yX10_tens : MethodName := ⟨RX10, "tens", "(II)I"⟩
abbrev cX10_span : ByteArray := prog_1_method_26_code
def yX10_span : MethodName := ⟨RX10, "span", "(II)J"⟩
abbrev cX10_next : ByteArray := prog_1_method_27_code
def yX10_next : MethodName := ⟨RX10, "next", "(I)I"⟩
abbrev cX10_enough : ByteArray := prog_1_method_28_code
def yX10_enough : MethodName := ⟨RX10, "enough", "(III)I"⟩
abbrev cX10_reading : ByteArray := prog_1_method_29_code
def yX10_reading : MethodName := ⟨RX10, "reading", "(II)J"⟩
abbrev cX10_unwed : ByteArray := prog_1_method_30_code
def yX10_unwed : MethodName := ⟨RX10, "unwed", "(II)I"⟩
abbrev cX10_parts : ByteArray := prog_1_method_31_code
def yX10_parts : MethodName := ⟨RX10, "parts", "(II)J"⟩
abbrev cX10_worth : ByteArray := prog_1_method_32_code
def yX10_worth : MethodName := ⟨RX10, "worth", "(III)I"⟩
abbrev cX10_person : ByteArray := prog_1_method_33_code
def yX10_person : MethodName := ⟨RX10, "person", "(II)I"⟩
abbrev cX10_twice : ByteArray := prog_1_method_34_code
def yX10_twice : MethodName := ⟨RX10, "twice", "(I)I"⟩
abbrev cX10_find : ByteArray := prog_1_method_35_code
def yX10_find : MethodName := ⟨RX10, "find", "(III)I"⟩
abbrev cX10_keep : ByteArray := prog_1_method_36_code
def yX10_keep : MethodName := ⟨RX10, "keep", "(I)I"⟩
abbrev cX10_back : ByteArray := prog_1_method_37_code
def yX10_back : MethodName := ⟨RX10, "back", "(I)I"⟩
abbrev cX10_sheet : ByteArray := prog_1_method_38_code
def yX10_sheet : MethodName := ⟨RX10, "sheet", "(III)I"⟩
abbrev cX10_lay : ByteArray := prog_1_method_39_code
def yX10_lay : MethodName := ⟨RX10, "lay", "(III)I"⟩
abbrev cX10_read : ByteArray := prog_1_method_40_code
def yX10_read : MethodName := ⟨RX10, "read", "(IIII)I"⟩
abbrev cX10_torn : ByteArray := prog_1_method_41_code
def yX10_torn : MethodName := ⟨RX10, "torn", "()I"⟩
abbrev cX10_count : ByteArray := prog_1_method_42_code
def yX10_count : MethodName := ⟨RX10, "count", "(I)I"⟩
abbrev cX10_within : ByteArray := prog_1_method_43_code
def yX10_within : MethodName := ⟨RX10, "within", "(III)Z"⟩
abbrev cX10_hasBit : ByteArray := prog_1_method_44_code
def yX10_hasBit : MethodName := ⟨RX10, "hasBit", "(II)Z"⟩
abbrev cX10_bitsApart : ByteArray := prog_1_method_45_code
def yX10_bitsApart : MethodName := ⟨RX10, "bitsApart", "(II)I"⟩
abbrev cX10_isParish : ByteArray := prog_1_method_46_code
def yX10_isParish : MethodName := ⟨RX10, "isParish", "(I)Z"⟩
abbrev cX10_areParishes : ByteArray := prog_1_method_47_code
def yX10_areParishes : MethodName := ⟨RX10, "areParishes", "(I)Z"⟩
abbrev cX10_isInBooks : ByteArray := prog_1_method_48_code
def yX10_isInBooks : MethodName := ⟨RX10, "isInBooks", "(I)Z"⟩
abbrev cX10_isMark : ByteArray := prog_1_method_49_code
def yX10_isMark : MethodName := ⟨RX10, "isMark", "(II)Z"⟩
abbrev cX10_isChoice : ByteArray := prog_1_method_50_code
def yX10_isChoice : MethodName := ⟨RX10, "isChoice", "(I)Z"⟩
abbrev cX10_isSheet : ByteArray := prog_1_method_51_code
def yX10_isSheet : MethodName := ⟨RX10, "isSheet", "(I)Z"⟩
abbrev cX10_isLane : ByteArray := prog_1_method_52_code
def yX10_isLane : MethodName := ⟨RX10, "isLane", "(I)Z"⟩
abbrev cX10_areLearntYears : ByteArray := prog_1_method_53_code
def yX10_areLearntYears : MethodName := ⟨RX10, "areLearntYears", "(II)Z"⟩
abbrev cX10_isMarriage : ByteArray := prog_1_method_54_code
def yX10_isMarriage : MethodName := ⟨RX10, "isMarriage", "(IIIII)Z"⟩
abbrev cX10_mayBe : ByteArray := prog_1_method_55_code
def yX10_mayBe : MethodName := ⟨RX10, "mayBe", "(II)Z"⟩
abbrev cX10_takeDraft : ByteArray := prog_1_method_56_code
def yX10_takeDraft : MethodName := ⟨RX10, "takeDraft", "()V"⟩
abbrev cX10_howMany : ByteArray := prog_1_method_57_code
def yX10_howMany : MethodName := ⟨RX10, "howMany", "(II)I"⟩
abbrev cX10_isOfSort : ByteArray := prog_1_method_58_code
def yX10_isOfSort : MethodName := ⟨RX10, "isOfSort", "(II)Z"⟩
abbrev cX10_howManyPairs : ByteArray := prog_1_method_59_code
def yX10_howManyPairs : MethodName := ⟨RX10, "howManyPairs", "(III)I"⟩
abbrev cX10_howManyLearnt : ByteArray := prog_1_method_60_code
def yX10_howManyLearnt : MethodName := ⟨RX10, "howManyLearnt", "(IIII)I"⟩
abbrev cX10_howSurelyLearnt : ByteArray := prog_1_method_61_code
def yX10_howSurelyLearnt : MethodName := ⟨RX10, "howSurelyLearnt", "(III)I"⟩
abbrev cX10_tallyGroups : ByteArray := prog_1_method_62_code
def yX10_tallyGroups : MethodName := ⟨RX10, "tallyGroups", "(LCrossOrName$Tally;II)V"⟩
abbrev cX10_tallyTens : ByteArray := prog_1_method_63_code
def yX10_tallyTens : MethodName := ⟨RX10, "tallyTens", "(I)V"⟩
abbrev cX10_tallyQuarters : ByteArray := prog_1_method_64_code
def yX10_tallyQuarters : MethodName := ⟨RX10, "tallyQuarters", "(II)V"⟩
abbrev cX10_fractionOrNone : ByteArray := prog_1_method_65_code
def yX10_fractionOrNone : MethodName := ⟨RX10, "fractionOrNone", "(III)I"⟩
abbrev cX10_allHaveMarks : ByteArray := prog_1_method_66_code
def yX10_allHaveMarks : MethodName := ⟨RX10, "allHaveMarks", "(I)Z"⟩
abbrev cX10_largestBelow : ByteArray := prog_1_method_67_code
def yX10_largestBelow : MethodName := ⟨RX10, "largestBelow", "(II)I"⟩
abbrev cX10_leastDrawn : ByteArray := prog_1_method_68_code
def yX10_leastDrawn : MethodName := ⟨RX10, "leastDrawn", "(III)I"⟩
abbrev cX10_fewestBelow : ByteArray := prog_1_method_69_code
def yX10_fewestBelow : MethodName := ⟨RX10, "fewestBelow", "(II)I"⟩
abbrev cX10_leastBits : ByteArray := prog_1_method_70_code
def yX10_leastBits : MethodName := ⟨RX10, "leastBits", "(II)I"⟩
abbrev cX10_ableOf : ByteArray := prog_1_method_71_code
def yX10_ableOf : MethodName := ⟨RX10, "ableOf", "(LCrossOrName$Tally;LCrossOrName$Tally;I)I"⟩
abbrev cX10_marksOf : ByteArray := prog_1_method_72_code
def yX10_marksOf : MethodName := ⟨RX10, "marksOf", "(LCrossOrName$Tally;LCrossOrName$Tally;I)I"⟩
abbrev cX10_bottomOf : ByteArray := prog_1_method_73_code
def yX10_bottomOf : MethodName := ⟨RX10, "bottomOf", "(I)J"⟩
abbrev cX10_addMore : ByteArray := prog_1_method_74_code
def yX10_addMore : MethodName := ⟨RX10, "addMore", "(I)V"⟩
abbrev cX10_addBetter : ByteArray := prog_1_method_75_code
def yX10_addBetter : MethodName := ⟨RX10, "addBetter", "(I)V"⟩
abbrev cX10_tallyPersons : ByteArray := prog_1_method_76_code
def yX10_tallyPersons : MethodName := ⟨RX10, "tallyPersons", "()V"⟩
abbrev cX10_gatherHands : ByteArray := prog_1_method_77_code
def yX10_gatherHands : MethodName := ⟨RX10, "gatherHands", "(I)I"⟩
abbrev cX10_howManyNear : ByteArray := prog_1_method_78_code
def yX10_howManyNear : MethodName := ⟨RX10, "howManyNear", "(III)I"⟩
abbrev cX10_refusalOf : ByteArray := prog_1_method_79_code
def yX10_refusalOf : MethodName := ⟨RX10, "refusalOf", "(LCrossOrName$Sheet;II)I"⟩
abbrev cX10_appendFrom : ByteArray := prog_1_method_80_code
def yX10_appendFrom : MethodName := ⟨RX10, "appendFrom", "(LCrossOrName$Sheet;II)V"⟩
def RX11 : String := "CrossOrNameModel"
def TX11 : u_T := fun k => match k with
  | 0 => ("CrossOrNameModel", "tape", "[I", true)
  | 1 => ("CrossOrNameModel", "taped", "I", false)
  | 2 => ("CrossOrNameModel", "fault", "I", false)
  | 3 => ("CrossOrNameModel", "wrong", "I", false)
  | 4 => ("CrossOrNameModel", "wrongAt", "I", false)
  | 5 => ("CrossOrNameModel", "spot", "I", false)
  | 6 => ("CrossOrNameModel", "place", "I", false)
  | 7 => ("CrossOrNameModel", "token", "I", false)
  | 8 => ("CrossOrNameModel", "value", "I", false)
  | 9 => ("CrossOrNameModel", "cuts", "[I", true)
  | 10 => ("CrossOrNameModel", "letters", "[I", true)
  | 11 => ("CrossOrNameModel", "plain", "[I", true)
  | 12 => ("CrossOrNameModel", "rules", "[I", true)
  | 13 => ("CrossOrNameModel", "parishes", "[I", true)
  | 14 => ("CrossOrNameModel", "clerks", "[I", true)
  | 15 => ("CrossOrNameModel", "readRules", "[I", true)
  | 16 => ("CrossOrNameModel", "readParishes", "[I", true)
  | 17 => ("CrossOrNameModel", "readClerks", "[I", true)
  | 18 => ("CrossOrNameModel", "toldOnes", "I", false)
  | 19 => ("CrossOrNameModel", "state", "[I", true)
  | 20 => ("CrossOrNameModel", "isAwake", "Z", false)
  | 21 => ("CrossOrNameModel", "kinds", "[I", true)
  | 22 => ("CrossOrNameModel", "all", "I", false)
  | 23 => ("CrossOrNameModel", "able", "I", false)
  | 24 => ("CrossOrNameModel", "surely", "I", false)
  | 25 => ("CrossOrNameModel", "perhaps", "I", false)
  | 26 => ("CrossOrNameModel", "surelyAble", "I", false)
  | 27 => ("CrossOrNameModel", "perhapsAble", "I", false)
  | 28 => ("CrossOrNameModel", "sumUp", "J", false)
  | 29 => ("CrossOrNameModel", "sumDown", "J", false)
  | 30 => ("CrossOrNameModel", "isKept", "[Z", true)
  | 31 => ("CrossOrNameModel", "lanes", "[I", true)
  | 32 => ("CrossOrNameModel", "lengths", "[I", true)
  | 33 => ("CrossOrNameModel", "cells", "[I", true)
  | _ => ("CrossOrNameModel", "torn", "I", false)
def tyX11 : Nat → FieldType := fun k => match k with
  | 0 => .array .int
  | 1 => .int
  | 2 => .int
  | 3 => .int
  | 4 => .int
  | 5 => .int
  | 6 => .int
  | 7 => .int
  | 8 => .int
  | 9 => .array .int
  | 10 => .array .int
  | 11 => .array .int
  | 12 => .array .int
  | 13 => .array .int
  | 14 => .array .int
  | 15 => .array .int
  | 16 => .array .int
  | 17 => .array .int
  | 18 => .int
  | 19 => .array .int
  | 20 => .boolean
  | 21 => .array .int
  | 22 => .int
  | 23 => .int
  | 24 => .int
  | 25 => .int
  | 26 => .int
  | 27 => .int
  | 28 => .long
  | 29 => .long
  | 30 => .array .boolean
  | 31 => .array .int
  | 32 => .array .int
  | 33 => .array .int
  | _ => .int
abbrev wsX110 : List Cond := u_ws RX11 TX11 35
theorem nmX11 : ∀ a, a < 35 → ∀ b, b < 35 → a ≠ b → (TX11 a).2.1 ≠ (TX11 b).2.1 := by decide +kernel
theorem tyX11_ok : ∀ k, k < 35 → parseFieldDescriptor (TX11 k).2.2.1 = some (tyX11 k) := by decide +kernel
abbrev cX11_init : ByteArray := prog_13_method_1_code
def yX11_init : MethodName := ⟨RX11, "<init>", "()V"⟩
abbrev cX11_in : ByteArray := prog_13_method_3_code
def yX11_in : MethodName := ⟨RX11, "in", "(JJJ)Z"⟩
abbrev cX11_feed : ByteArray := prog_13_method_4_code
def yX11_feed : MethodName := ⟨RX11, "feed", "(J)I"⟩
abbrev cX11_end : ByteArray := prog_13_method_5_code
def yX11_end : MethodName := ⟨RX11, "end", "(I)I"⟩
abbrev cX11_byteAt : ByteArray := prog_13_method_6_code
def yX11_byteAt : MethodName := ⟨RX11, "byteAt", "(I)I"⟩
abbrev cX11_fails : ByteArray := prog_13_method_7_code
def yX11_fails : MethodName := ⟨RX11, "fails", "(I)V"⟩
abbrev cX11_nameHere : ByteArray := prog_13_method_8_code
def yX11_nameHere : MethodName := ⟨RX11, "nameHere", "()I"⟩
abbrev cX11_next2 : ByteArray := prog_13_method_9_code
def yX11_next2 : MethodName := ⟨RX11, "next2", "()V"⟩
abbrev cX11_number : ByteArray := prog_13_method_10_code
def yX11_number : MethodName := ⟨RX11, "number", "(II)I"⟩
abbrev cX11_yearBehind : ByteArray := prog_13_method_11_code
def yX11_yearBehind : MethodName := ⟨RX11, "yearBehind", "(I)I"⟩
abbrev cX11_readParish : ByteArray := prog_13_method_12_code
def yX11_readParish : MethodName := ⟨RX11, "readParish", "()V"⟩
abbrev cX11_readClerk : ByteArray := prog_13_method_13_code
def yX11_readClerk : MethodName := ⟨RX11, "readClerk", "()V"⟩
abbrev cX11_readTried : ByteArray := prog_13_method_14_code
def yX11_readTried : MethodName := ⟨RX11, "readTried", "()V"⟩
abbrev cX11_readRule : ByteArray := prog_13_method_15_code
def yX11_readRule : MethodName := ⟨RX11, "readRule", "(I)V"⟩
abbrev cX11_readLine : ByteArray := prog_13_method_16_code
def yX11_readLine : MethodName := ⟨RX11, "readLine", "()V"⟩
abbrev cX11_land : ByteArray := prog_13_method_17_code
def yX11_land : MethodName := ⟨RX11, "land", "()I"⟩
abbrev cX11_fault : ByteArray := prog_13_method_18_code
def yX11_fault : MethodName := ⟨RX11, "fault", "()I"⟩
abbrev cX11_told : ByteArray := prog_13_method_19_code
def yX11_told : MethodName := ⟨RX11, "told", "(I)I"⟩
abbrev cX11_isParish : ByteArray := prog_13_method_20_code
def yX11_isParish : MethodName := ⟨RX11, "isParish", "(I)Z"⟩
abbrev cX11_parishOf : ByteArray := prog_13_method_21_code
def yX11_parishOf : MethodName := ⟨RX11, "parishOf", "(II)I"⟩
abbrev cX11_parish : ByteArray := prog_13_method_22_code
def yX11_parish : MethodName := ⟨RX11, "parish", "(II)I"⟩
abbrev cX11_isClerk : ByteArray := prog_13_method_23_code
def yX11_isClerk : MethodName := ⟨RX11, "isClerk", "(I)Z"⟩
abbrev cX11_clerk : ByteArray := prog_13_method_24_code
def yX11_clerk : MethodName := ⟨RX11, "clerk", "(II)I"⟩
abbrev cX11_size : ByteArray := prog_13_method_25_code
def yX11_size : MethodName := ⟨RX11, "size", "()I"⟩
abbrev cX11_its : ByteArray := prog_13_method_26_code
def yX11_its : MethodName := ⟨RX11, "its", "(II)I"⟩
abbrev cX11_of5 : ByteArray := prog_13_method_27_code
def yX11_of5 : MethodName := ⟨RX11, "of5", "(III)I"⟩
abbrev cX11_setChoice : ByteArray := prog_13_method_28_code
def yX11_setChoice : MethodName := ⟨RX11, "setChoice", "(IIIIII)V"⟩
abbrev cX11_awake : ByteArray := prog_13_method_29_code
def yX11_awake : MethodName := ⟨RX11, "awake", "()V"⟩
abbrev cX11_isMarry : ByteArray := prog_13_method_30_code
def yX11_isMarry : MethodName := ⟨RX11, "isMarry", "(IIIII)Z"⟩
abbrev cX11_adds : ByteArray := prog_13_method_31_code
def yX11_adds : MethodName := ⟨RX11, "adds", "(IIIII)V"⟩
abbrev cX11_marry : ByteArray := prog_13_method_32_code
def yX11_marry : MethodName := ⟨RX11, "marry", "(IIIII)I"⟩
abbrev cX11_isMark : ByteArray := prog_13_method_33_code
def yX11_isMark : MethodName := ⟨RX11, "isMark", "(II)Z"⟩
abbrev cX11_isValue : ByteArray := prog_13_method_34_code
def yX11_isValue : MethodName := ⟨RX11, "isValue", "(II)Z"⟩
abbrev cX11_set : ByteArray := prog_13_method_35_code
def yX11_set : MethodName := ⟨RX11, "set", "(IIII)I"⟩
abbrev cX11_of : ByteArray := prog_13_method_36_code
def yX11_of : MethodName := ⟨RX11, "of", "(II)I"⟩
abbrev cX11_has : ByteArray := prog_13_method_37_code
def yX11_has : MethodName := ⟨RX11, "has", "(III)I"⟩
abbrev cX11_bitsOf : ByteArray := prog_13_method_38_code
def yX11_bitsOf : MethodName := ⟨RX11, "bitsOf", "(I)I"⟩
abbrev cX11_writerOf : ByteArray := prog_13_method_39_code
def yX11_writerOf : MethodName := ⟨RX11, "writerOf", "(II)I"⟩
abbrev cX11_isOwnName : ByteArray := prog_13_method_40_code
def yX11_isOwnName : MethodName := ⟨RX11, "isOwnName", "(II)Z"⟩
abbrev cX11_isDrawn : ByteArray := prog_13_method_41_code
def yX11_isDrawn : MethodName := ⟨RX11, "isDrawn", "(II)Z"⟩
abbrev cX11_nameKind : ByteArray := prog_13_method_42_code
def yX11_nameKind : MethodName := ⟨RX11, "nameKind", "(II)I"⟩
abbrev cX11_kindOf : ByteArray := prog_13_method_43_code
def yX11_kindOf : MethodName := ⟨RX11, "kindOf", "(II)I"⟩
abbrev cX11_kind : ByteArray := prog_13_method_44_code
def yX11_kind : MethodName := ⟨RX11, "kind", "(II)I"⟩
abbrev cX11_writer : ByteArray := prog_13_method_45_code
def yX11_writer : MethodName := ⟨RX11, "writer", "(II)I"⟩
abbrev cX11_apart : ByteArray := prog_13_method_46_code
def yX11_apart : MethodName := ⟨RX11, "apart", "(II)I"⟩
abbrev cX11_tear : ByteArray := prog_13_method_47_code
def yX11_tear : MethodName := ⟨RX11, "tear", "(I)I"⟩
abbrev cX11_layKinds : ByteArray := prog_13_method_48_code
def yX11_layKinds : MethodName := ⟨RX11, "layKinds", "()V"⟩
abbrev cX11_isChoice : ByteArray := prog_13_method_49_code
def yX11_isChoice : MethodName := ⟨RX11, "isChoice", "(I)Z"⟩
abbrev cX11_isIn : ByteArray := prog_13_method_50_code
def yX11_isIn : MethodName := ⟨RX11, "isIn", "(II)Z"⟩
abbrev cX11_isAble : ByteArray := prog_13_method_51_code
def yX11_isAble : MethodName := ⟨RX11, "isAble", "(I)Z"⟩
abbrev cX11_choose : ByteArray := prog_13_method_52_code
def yX11_choose : MethodName := ⟨RX11, "choose", "(IIIIII)I"⟩
abbrev cX11_groupOf : ByteArray := prog_13_method_53_code
def yX11_groupOf : MethodName := ⟨RX11, "groupOf", "(II)I"⟩
abbrev cX11_tally : ByteArray := prog_13_method_54_code
def yX11_tally : MethodName := ⟨RX11, "tally", "(III)V"⟩
abbrev cX11_many : ByteArray := prog_13_method_55_code
def yX11_many : MethodName := ⟨RX11, "many", "(II)I"⟩
abbrev cX11_common : ByteArray := prog_13_method_56_code
def yX11_common : MethodName := ⟨RX11, "common", "(JJ)J"⟩
abbrev cX11_lowest : ByteArray := prog_13_method_57_code
def yX11_lowest : MethodName := ⟨RX11, "lowest", "(JJI)J"⟩
abbrev cX11_share : ByteArray := prog_13_method_58_code
def yX11_share : MethodName := ⟨RX11, "share", "(II)I"⟩
abbrev cX11_groupMany : ByteArray := prog_13_method_59_code
def yX11_groupMany : MethodName := ⟨RX11, "groupMany", "(I)I"⟩
abbrev cX11_best : ByteArray := prog_13_method_60_code
def yX11_best : MethodName := ⟨RX11, "best", "(IIII)I"⟩
abbrev cX11_pairsOf : ByteArray := prog_13_method_61_code
def yX11_pairsOf : MethodName := ⟨RX11, "pairsOf", "(III)I"⟩
abbrev cX11_pairs : ByteArray := prog_13_method_62_code
def yX11_pairs : MethodName := ⟨RX11, "pairs", "(II)I"⟩
abbrev cX11_spared : ByteArray := prog_13_method_63_code
def yX11_spared : MethodName := ⟨RX11, "spared", "(II)I"⟩
abbrev cX11_layLearnt : ByteArray := prog_13_method_64_code
def yX11_layLearnt : MethodName := ⟨RX11, "layLearnt", "(III)V"⟩
abbrev cX11_isSpan : ByteArray := prog_13_method_65_code
def yX11_isSpan : MethodName := ⟨RX11, "isSpan", "(II)Z"⟩
abbrev cX11_learnt : ByteArray := prog_13_method_66_code
def yX11_learnt : MethodName := ⟨RX11, "learnt", "(IIII)I"⟩
abbrev cX11_bounds : ByteArray := prog_13_method_67_code
def yX11_bounds : MethodName := ⟨RX11, "bounds", "(IIII)I"⟩
abbrev cX11_tens : ByteArray := prog_13_method_68_code
def yX11_tens : MethodName := ⟨RX11, "tens", "(II)I"⟩
abbrev cX11_nothing : ByteArray := prog_13_method_69_code
def yX11_nothing : MethodName := ⟨RX11, "nothing", "()V"⟩
abbrev cX11_plus : ByteArray := prog_13_method_70_code
def yX11_plus : MethodName := ⟨RX11, "plus", "(JJ)V"⟩
abbrev cX11_allMarriages : ByteArray := prog_13_method_71_code
def yX11_allMarriages : MethodName := ⟨RX11, "allMarriages", "()I"⟩
abbrev cX11_marked : ByteArray := prog_13_method_72_code
def yX11_marked : MethodName := ⟨RX11, "marked", "()I"⟩
abbrev cX11_areDrawn : ByteArray := prog_13_method_73_code
def yX11_areDrawn : MethodName := ⟨RX11, "areDrawn", "(I)Z"⟩
abbrev cX11_span : ByteArray := prog_13_method_74_code
def yX11_span : MethodName := ⟨RX11, "span", "(II)J"⟩
abbrev cX11_next : ByteArray := prog_13_method_75_code
def yX11_next : MethodName := ⟨RX11, "next", "(I)I"⟩
abbrev cX11_enough : ByteArray := prog_13_method_76_code
def yX11_enough : MethodName := ⟨RX11, "enough", "(III)I"⟩
abbrev cX11_reading : ByteArray := prog_13_method_77_code
def yX11_reading : MethodName := ⟨RX11, "reading", "(II)J"⟩
abbrev cX11_unwed : ByteArray := prog_13_method_78_code
def yX11_unwed : MethodName := ⟨RX11, "unwed", "(II)I"⟩
abbrev cX11_parts : ByteArray := prog_13_method_79_code
def yX11_parts : MethodName := ⟨RX11, "parts", "(II)J"⟩
abbrev cX11_worth : ByteArray := prog_13_method_80_code
def yX11_worth : MethodName := ⟨RX11, "worth", "(III)I"⟩
abbrev cX11_marksOf : ByteArray := prog_13_method_81_code
def yX11_marksOf : MethodName := ⟨RX11, "marksOf", "(II)I"⟩
abbrev cX11_isLater : ByteArray := prog_13_method_82_code
def yX11_isLater : MethodName := ⟨RX11, "isLater", "(III)Z"⟩
abbrev cX11_widest : ByteArray := prog_13_method_83_code
def yX11_widest : MethodName := ⟨RX11, "widest", "(I)I"⟩
abbrev cX11_person : ByteArray := prog_13_method_84_code
def yX11_person : MethodName := ⟨RX11, "person", "(II)I"⟩
abbrev cX11_twice : ByteArray := prog_13_method_85_code
def yX11_twice : MethodName := ⟨RX11, "twice", "(I)I"⟩
abbrev cX11_find : ByteArray := prog_13_method_86_code
def yX11_find : MethodName := ⟨RX11, "find", "(III)I"⟩
abbrev cX11_keep : ByteArray := prog_13_method_87_code
def yX11_keep : MethodName := ⟨RX11, "keep", "(I)I"⟩
abbrev cX11_back : ByteArray := prog_13_method_88_code
def yX11_back : MethodName := ⟨RX11, "back", "(I)I"⟩
abbrev cX11_sheet : ByteArray := prog_13_method_89_code
def yX11_sheet : MethodName := ⟨RX11, "sheet", "(III)I"⟩
abbrev cX11_lay : ByteArray := prog_13_method_90_code
def yX11_lay : MethodName := ⟨RX11, "lay", "(III)I"⟩
abbrev cX11_read : ByteArray := prog_13_method_91_code
def yX11_read : MethodName := ⟨RX11, "read", "(IIII)I"⟩
abbrev cX11_torn : ByteArray := prog_13_method_92_code
def yX11_torn : MethodName := ⟨RX11, "torn", "()I"⟩
abbrev cX11_count : ByteArray := prog_13_method_93_code
def yX11_count : MethodName := ⟨RX11, "count", "(I)I"⟩
def RJ6 : String := "java/lang/Integer"
def TJ6 : u_T := fun k => match k with
  | _ => ("", "", "", false)
def tyJ6 : Nat → FieldType := fun k => match k with
  | _ => .int
abbrev wsJ60 : List Cond := u_ws RJ6 TJ6 0
theorem nmJ6 : ∀ a, a < 0 → ∀ b, b < 0 → a ≠ b → (TJ6 a).2.1 ≠ (TJ6 b).2.1 := by decide +kernel
theorem tyJ6_ok : ∀ k, k < 0 → parseFieldDescriptor (TJ6 k).2.2.1 = some (tyJ6 k) := by decide +kernel
abbrev cJ6_bitCount_0f7a4 : ByteArray := prog_14_method_49_code
def yJ6_bitCount_0f7a4 : MethodName := ⟨RJ6, "bitCount", "(I)I"⟩
def RJ9 : String := "java/lang/Math"
def TJ9 : u_T := fun k => match k with
  | _ => ("", "", "", false)
def tyJ9 : Nat → FieldType := fun k => match k with
  | _ => .int
abbrev wsJ90 : List Cond := u_ws RJ9 TJ9 0
theorem nmJ9 : ∀ a, a < 0 → ∀ b, b < 0 → a ≠ b → (TJ9 a).2.1 ≠ (TJ9 b).2.1 := by decide +kernel
theorem tyJ9_ok : ∀ k, k < 0 → parseFieldDescriptor (TJ9 k).2.2.1 = some (tyJ9 k) := by decide +kernel
abbrev cJ9_abs_067f4 : ByteArray := prog_15_method_61_code
def yJ9_abs_067f4 : MethodName := ⟨RJ9, "abs", "(J)J"⟩
abbrev cJ9_max_7cf53 : ByteArray := prog_15_method_65_code
def yJ9_max_7cf53 : MethodName := ⟨RJ9, "max", "(II)I"⟩
abbrev cJ9_min_7cf53 : ByteArray := prog_15_method_69_code
def yJ9_min_7cf53 : MethodName := ⟨RJ9, "min", "(II)I"⟩
def RJ0 : String := "java/lang/String"
def TJ0 : u_T := fun k => match k with
  | _ => ("", "", "", false)
def tyJ0 : Nat → FieldType := fun k => match k with
  | _ => .int
abbrev wsJ00 : List Cond := u_ws RJ0 TJ0 0
theorem nmJ0 : ∀ a, a < 0 → ∀ b, b < 0 → a ≠ b → (TJ0 a).2.1 ≠ (TJ0 b).2.1 := by decide +kernel
theorem tyJ0_ok : ∀ k, k < 0 → parseFieldDescriptor (TJ0 k).2.2.1 = some (tyJ0 k) := by decide +kernel
abbrev cJ0_length_8abf5 : ByteArray := prog_16_method_54_code
def yJ0_length_8abf5 : MethodName := ⟨RJ0, "length", "()I"⟩
abbrev cJ0_charAt_5068e : ByteArray := prog_16_method_56_code
def yJ0_charAt_5068e : MethodName := ⟨RJ0, "charAt", "(I)C"⟩
abbrev cJ0_coder_7d493 : ByteArray := prog_16_method_152_code
def yJ0_coder_7d493 : MethodName := ⟨RJ0, "coder", "()B"⟩
abbrev cJ0_isLatin1_aae02 : ByteArray := prog_16_method_154_code
def yJ0_isLatin1_aae02 : MethodName := ⟨RJ0, "isLatin1", "()Z"⟩
abbrev cJ0_checkIndex_df160 : ByteArray := prog_16_method_155_code
def yJ0_checkIndex_df160 : MethodName := ⟨RJ0, "checkIndex", "(II)V"⟩
def RJ1 : String := "java/lang/StringLatin1"
def TJ1 : u_T := fun k => match k with
  | _ => ("", "", "", false)
def tyJ1 : Nat → FieldType := fun k => match k with
  | _ => .int
abbrev wsJ10 : List Cond := u_ws RJ1 TJ1 0
theorem nmJ1 : ∀ a, a < 0 → ∀ b, b < 0 → a ≠ b → (TJ1 a).2.1 ≠ (TJ1 b).2.1 := by decide +kernel
theorem tyJ1_ok : ∀ k, k < 0 → parseFieldDescriptor (TJ1 k).2.2.1 = some (tyJ1 k) := by decide +kernel
abbrev cJ1_charAt_3b067 : ByteArray := prog_17_method_2_code
def yJ1_charAt_3b067 : MethodName := ⟨RJ1, "charAt", "([BI)C"⟩
def RJ2 : String := "java/lang/StringUTF16"
def TJ2 : u_T := fun k => match k with
  | _ => ("", "", "", false)
def tyJ2 : Nat → FieldType := fun k => match k with
  | _ => .int
abbrev wsJ20 : List Cond := u_ws RJ2 TJ2 0
theorem nmJ2 : ∀ a, a < 0 → ∀ b, b < 0 → a ≠ b → (TJ2 a).2.1 ≠ (TJ2 b).2.1 := by decide +kernel
theorem tyJ2_ok : ∀ k, k < 0 → parseFieldDescriptor (TJ2 k).2.2.1 = some (tyJ2 k) := by decide +kernel
abbrev cJ2_getChar_3b067 : ByteArray := prog_18_method_5_code
def yJ2_getChar_3b067 : MethodName := ⟨RJ2, "getChar", "([BI)C"⟩
abbrev cJ2_length_9d52b : ByteArray := prog_18_method_6_code
def yJ2_length_9d52b : MethodName := ⟨RJ2, "length", "([B)I"⟩
abbrev cJ2_charAt_3b067 : ByteArray := prog_18_method_83_code
def yJ2_charAt_3b067 : MethodName := ⟨RJ2, "charAt", "([BI)C"⟩
abbrev cJ2_checkIndex_2214a : ByteArray := prog_18_method_91_code
def yJ2_checkIndex_2214a : MethodName := ⟨RJ2, "checkIndex", "(I[B)V"⟩
def RJ10 : String := "java/lang/System"
def TJ10 : u_T := fun k => match k with
  | _ => ("", "", "", false)
def tyJ10 : Nat → FieldType := fun k => match k with
  | _ => .int
abbrev wsJ100 : List Cond := u_ws RJ10 TJ10 0
theorem nmJ10 : ∀ a, a < 0 → ∀ b, b < 0 → a ≠ b → (TJ10 a).2.1 ≠ (TJ10 b).2.1 := by decide +kernel
theorem tyJ10_ok : ∀ k, k < 0 → parseFieldDescriptor (TJ10 k).2.2.1 = some (tyJ10 k) := by decide +kernel
def RJ3 : String := "jdk/internal/util/Preconditions"
def TJ3 : u_T := fun k => match k with
  | _ => ("", "", "", false)
def tyJ3 : Nat → FieldType := fun k => match k with
  | _ => .int
abbrev wsJ30 : List Cond := u_ws RJ3 TJ3 0
theorem nmJ3 : ∀ a, a < 0 → ∀ b, b < 0 → a ≠ b → (TJ3 a).2.1 ≠ (TJ3 b).2.1 := by decide +kernel
theorem tyJ3_ok : ∀ k, k < 0 → parseFieldDescriptor (TJ3 k).2.2.1 = some (tyJ3 k) := by decide +kernel
abbrev cJ3_checkIndex_8e157 : ByteArray := prog_20_method_11_code
def yJ3_checkIndex_8e157 : MethodName := ⟨RJ3, "checkIndex", "(IILjava/util/function/BiFunction;)I"⟩
def RL : String := "CrossOrNameLaw"
abbrev cL_law : ByteArray := code
def yL_law : MethodName := ⟨RL, "law", "([I)Z"⟩
def wsL_law_r1 : List Cond := [Cond.classLink RL 7 RX10, Cond.instantiable RX10 16, Cond.initialized RX10, Cond.classLink RL 10 RX11, Cond.instantiable RX11 35, Cond.initialized RX11, Cond.constantLong RL 13 (4294967295), Cond.methodLink RL 9 yX10_init, Cond.instanceMethod yX10_init, Cond.code yX10_init cX10_init 1 none, Cond.methodLink RX10 1 objectInit, Cond.instanceMethod objectInit, Cond.code objectInit ⟨#[0xb1]⟩ 1 none, Cond.classLink RX10 7 RX9, Cond.instantiable RX9 2, Cond.initialized RX9, Cond.fieldLink RX10 10 "CrossOrName" "tape" "LCrossOrName$Tape;", Cond.classLink RX10 16 RX5, Cond.instantiable RX5 9, Cond.initialized RX5, Cond.fieldLink RX10 19 "CrossOrName" "reader" "LCrossOrName$LandReader;", Cond.classLink RX10 23 RX4, Cond.instantiable RX4 10, Cond.initialized RX4]
def wsL_law_r2 : List Cond := [Cond.fieldLink RX10 26 "CrossOrName" "ours" "LCrossOrName$Land;", Cond.fieldLink RX10 30 "CrossOrName" "draft" "LCrossOrName$Land;", Cond.fieldLink RX10 33 "CrossOrName" "latestFault" "I", Cond.classLink RX10 37 RX0, Cond.instantiable RX0 3, Cond.initialized RX0, Cond.fieldLink RX10 40 "CrossOrName" "books" "LCrossOrName$Books;", Cond.classLink RX10 44 RX3, Cond.instantiable RX3 5, Cond.initialized RX3, Cond.fieldLink RX10 47 "CrossOrName" "kinds" "LCrossOrName$Kinds;", Cond.classLink RX10 51 RX1, Cond.instantiable RX1 5, Cond.initialized RX1, Cond.fieldLink RX10 54 "CrossOrName" "choices" "[LCrossOrName$Choice;", Cond.classLink RX10 58 RX2, Cond.instantiable RX2 4, Cond.initialized RX2, Cond.fieldLink RX10 61 "CrossOrName" "images" "[LCrossOrName$Image;", Cond.classLink RX10 65 RX7, Cond.instantiable RX7 3, Cond.initialized RX7, Cond.fieldLink RX10 68 "CrossOrName" "sheets" "[LCrossOrName$Sheet;", Cond.fieldLink RX10 72 "CrossOrName" "latestTorn" "I"]
def wsL_law_r3 : List Cond := [Cond.classLink RX10 75 RX8, Cond.instantiable RX8 3, Cond.initialized RX8, Cond.fieldLink RX10 78 "CrossOrName" "before" "LCrossOrName$Tally;", Cond.fieldLink RX10 82 "CrossOrName" "after" "LCrossOrName$Tally;", Cond.classLink RX10 85 RX6, Cond.instantiable RX6 2, Cond.initialized RX6, Cond.fieldLink RX10 88 "CrossOrName" "ratio" "LCrossOrName$Ratio;", Cond.arrayClass .int, Cond.fieldLink RX10 92 "CrossOrName" "handsFound" "[I", Cond.classLink RX10 96 "[[I", Cond.fieldLink RX10 98 "CrossOrName" "standing" "[[I", Cond.methodLink RX10 9 yX9_init, Cond.instanceMethod yX9_init, Cond.code yX9_init cX9_init 1 none, Cond.methodLink RX9 3 objectInit, Cond.arrayClass .byte, Cond.fieldLink RX9 9 "CrossOrName$Tape" "bytes" "[B", Cond.fieldLink RX9 15 "CrossOrName$Tape" "length" "I", Cond.methodLink RX10 18 yX5_init, Cond.instanceMethod yX5_init, Cond.code yX5_init cX5_init 1 none, Cond.methodLink RX5 3 objectInit]
def wsL_law_r4 : List Cond := [Cond.methodLink RX10 25 yX4_init, Cond.instanceMethod yX4_init, Cond.code yX4_init cX4_init 1 none, Cond.methodLink RX4 3 objectInit, Cond.fieldLink RX4 9 "CrossOrName$Land" "tried" "[I", Cond.classLink RX4 15 "[[I", Cond.fieldLink RX4 17 "CrossOrName$Land" "parish" "[[I", Cond.fieldLink RX4 20 "CrossOrName$Land" "clerk" "[[I", Cond.methodLink RX4 23 yX4_clear, Cond.instanceMethod yX4_clear, Cond.selects RX4 yX4_clear yX4_clear, Cond.code yX4_clear cX4_clear 1 none, Cond.fieldLink RX4 26 "CrossOrName$Land" "parishes" "I", Cond.fieldLink RX4 30 "CrossOrName$Land" "clerks" "I", Cond.fieldLink RX4 33 "CrossOrName$Land" "learn" "I", Cond.fieldLink RX4 36 "CrossOrName$Land" "leastAge" "I", Cond.fieldLink RX4 39 "CrossOrName$Land" "greatestAge" "I", Cond.fieldLink RX4 42 "CrossOrName$Land" "never" "I", Cond.fieldLink RX4 45 "CrossOrName$Land" "picture" "I", Cond.methodLink RX10 39 yX0_init, Cond.instanceMethod yX0_init, Cond.code yX0_init cX0_init 1 none, Cond.methodLink RX0 3 objectInit, Cond.fieldLink RX0 9 "CrossOrName$Books" "size" "I"]
def wsL_law_r5 : List Cond := [Cond.classLink RX0 15 "[[I", Cond.fieldLink RX0 17 "CrossOrName$Books" "pair" "[[I", Cond.fieldLink RX0 20 "CrossOrName$Books" "side" "[[I", Cond.methodLink RX10 46 yX3_init, Cond.instanceMethod yX3_init, Cond.code yX3_init cX3_init 1 none, Cond.methodLink RX3 3 objectInit, Cond.fieldLink RX3 9 "CrossOrName$Kinds" "stale" "Z", Cond.fieldLink RX3 15 "CrossOrName$Kinds" "kind" "[I", Cond.fieldLink RX3 19 "CrossOrName$Kinds" "writer" "[I", Cond.methodLink RX10 53 yX1_init, Cond.instanceMethod yX1_init, Cond.code yX1_init cX1_init 1 none, Cond.methodLink RX1 3 objectInit, Cond.methodLink RX1 9 yX1_becomeAll, Cond.instanceMethod yX1_becomeAll, Cond.selects RX1 yX1_becomeAll yX1_becomeAll, Cond.code yX1_becomeAll cX1_becomeAll 2 none, Cond.methodLink RX1 15 yX1_become, Cond.instanceMethod yX1_become, Cond.selects RX1 yX1_become yX1_become, Cond.code yX1_become cX1_become 6 none, Cond.fieldLink RX1 19 "CrossOrName$Choice" "parishes" "I", Cond.fieldLink RX1 23 "CrossOrName$Choice" "from" "I"]
def wsL_law_r6 : List Cond := [Cond.fieldLink RX1 26 "CrossOrName$Choice" "to" "I", Cond.fieldLink RX1 29 "CrossOrName$Choice" "sides" "I", Cond.fieldLink RX1 32 "CrossOrName$Choice" "trades" "I", Cond.methodLink RX10 60 yX2_init, Cond.instanceMethod yX2_init, Cond.code yX2_init cX2_init 1 none, Cond.methodLink RX2 1 objectInit, Cond.fieldLink RX2 7 "CrossOrName$Image" "kept" "Z", Cond.classLink RX2 13 RX0, Cond.fieldLink RX2 16 "CrossOrName$Image" "books" "LCrossOrName$Books;", Cond.classLink RX2 20 RX1, Cond.fieldLink RX2 23 "CrossOrName$Image" "first" "LCrossOrName$Choice;", Cond.fieldLink RX2 27 "CrossOrName$Image" "second" "LCrossOrName$Choice;", Cond.methodLink RX2 15 yX0_init, Cond.methodLink RX2 22 yX1_init, Cond.methodLink RX10 67 yX7_init, Cond.instanceMethod yX7_init, Cond.code yX7_init cX7_init 1 none, Cond.methodLink RX7 3 objectInit, Cond.fieldLink RX7 9 "CrossOrName$Sheet" "size" "I", Cond.fieldLink RX7 15 "CrossOrName$Sheet" "lane" "I", Cond.fieldLink RX7 18 "CrossOrName$Sheet" "cells" "[I", Cond.methodLink RX10 77 yX8_init, Cond.instanceMethod yX8_init]
def wsL_law_r7 : List Cond := [Cond.code yX8_init cX8_init 1 none, Cond.methodLink RX8 3 objectInit, Cond.fieldLink RX8 9 "CrossOrName$Tally" "marks" "[I", Cond.fieldLink RX8 15 "CrossOrName$Tally" "able" "[I", Cond.fieldLink RX8 18 "CrossOrName$Tally" "allMarks" "I", Cond.methodLink RX10 87 yX6_init, Cond.instanceMethod yX6_init, Cond.code yX6_init cX6_init 1 none, Cond.methodLink RX6 1 objectInit, Cond.fieldLink RX6 7 "CrossOrName$Ratio" "top" "J", Cond.fieldLink RX6 13 "CrossOrName$Ratio" "bottom" "J", Cond.methodLink RL 12 yX11_init, Cond.instanceMethod yX11_init, Cond.code yX11_init cX11_init 1 none, Cond.methodLink RX11 1 objectInit, Cond.fieldLink RX11 7 "CrossOrNameModel" "tape" "[I", Cond.fieldLink RX11 13 "CrossOrNameModel" "cuts" "[I", Cond.fieldLink RX11 16 "CrossOrNameModel" "letters" "[I", Cond.fieldLink RX11 19 "CrossOrNameModel" "plain" "[I", Cond.fieldLink RX11 22 "CrossOrNameModel" "rules" "[I", Cond.fieldLink RX11 25 "CrossOrNameModel" "parishes" "[I", Cond.fieldLink RX11 28 "CrossOrNameModel" "clerks" "[I", Cond.fieldLink RX11 31 "CrossOrNameModel" "readRules" "[I", Cond.fieldLink RX11 34 "CrossOrNameModel" "readParishes" "[I"]
def wsL_law_r8 : List Cond := [Cond.fieldLink RX11 37 "CrossOrNameModel" "readClerks" "[I", Cond.fieldLink RX11 40 "CrossOrNameModel" "state" "[I", Cond.fieldLink RX11 43 "CrossOrNameModel" "kinds" "[I", Cond.arrayClass .boolean, Cond.fieldLink RX11 46 "CrossOrNameModel" "isKept" "[Z", Cond.fieldLink RX11 50 "CrossOrNameModel" "lanes" "[I", Cond.fieldLink RX11 53 "CrossOrNameModel" "lengths" "[I", Cond.fieldLink RX11 56 "CrossOrNameModel" "cells" "[I", Cond.methodLink RL 15 yX10_feed, Cond.instanceMethod yX10_feed, Cond.selects RX10 yX10_feed yX10_feed, Cond.code yX10_feed cX10_feed 3 (some .int), Cond.fieldLink RX10 105 "CrossOrName$Tape" "length" "I", Cond.methodLink RX10 101 yX9_append, Cond.instanceMethod yX9_append, Cond.selects RX9 yX9_append yX9_append, Cond.code yX9_append cX9_append 4 (some .boolean), Cond.methodLink RL 19 yX11_feed, Cond.instanceMethod yX11_feed, Cond.selects RX11 yX11_feed yX11_feed, Cond.code yX11_feed cX11_feed 4 (some .int), Cond.fieldLink RX11 59 "CrossOrNameModel" "taped" "I", Cond.methodLink RL 20 yX10_end, Cond.instanceMethod yX10_end]
def wsL_law_r9 : List Cond := [Cond.selects RX10 yX10_end yX10_end, Cond.code yX10_end cX10_end 3 (some .int), Cond.methodLink RX10 108 yX10_within, Cond.static yX10_within, Cond.code yX10_within cX10_within 3 (some .boolean), Cond.methodLink RL 24 yX11_end, Cond.instanceMethod yX11_end, Cond.selects RX11 yX11_end yX11_end, Cond.code yX11_end cX11_end 3 (some .int), Cond.methodLink RX11 63 yX11_in, Cond.static yX11_in, Cond.code yX11_in cX11_in 6 (some .boolean), Cond.methodLink RL 25 yX10_land, Cond.instanceMethod yX10_land, Cond.selects RX10 yX10_land yX10_land, Cond.code yX10_land cX10_land 2 (some .int), Cond.fieldLink RX10 116 "CrossOrName$LandReader" "fault" "I", Cond.fieldLink RX10 119 "CrossOrName$LandReader" "faultPlace" "I", Cond.methodLink RX10 112 yX5_readLines, Cond.instanceMethod yX5_readLines, Cond.selects RX5 yX5_readLines yX5_readLines, Cond.code yX5_readLines cX5_readLines 4 (some .int), Cond.fieldLink RX5 9 "CrossOrName$LandReader" "tape" "LCrossOrName$Tape;", Cond.fieldLink RX5 15 "CrossOrName$LandReader" "draft" "LCrossOrName$Land;"]
def wsL_law_r10 : List Cond := [Cond.fieldLink RX5 24 "CrossOrName$LandReader" "at" "I", Cond.fieldLink RX5 28 "CrossOrName$LandReader" "seen" "I", Cond.fieldLink RX5 31 "CrossOrName$LandReader" "fault" "I", Cond.fieldLink RX5 34 "CrossOrName$LandReader" "faultPlace" "I", Cond.fieldLink RX5 40 "CrossOrName$LandReader" "token" "I", Cond.methodLink RX5 19 yX4_clear, Cond.methodLink RX5 37 yX5_advance, Cond.instanceMethod yX5_advance, Cond.selects RX5 yX5_advance yX5_advance, Cond.code yX5_advance cX5_advance 1 none, Cond.fieldLink RX5 141 "CrossOrName$Tape" "length" "I", Cond.fieldLink RX5 138 "CrossOrName$LandReader" "place" "I", Cond.methodLink RX5 146 yX5_sortAt, Cond.instanceMethod yX5_sortAt, Cond.selects RX5 yX5_sortAt yX5_sortAt, Cond.code yX5_sortAt cX5_sortAt 3 (some .int), Cond.fieldLink RX5 153 "CrossOrName$Tape" "bytes" "[B", Cond.methodLink RX5 93 yX5_refuse, Cond.instanceMethod yX5_refuse, Cond.selects RX5 yX5_refuse yX5_refuse, Cond.code yX5_refuse cX5_refuse 2 none, Cond.methodLink RX5 150 yX5_readRow, Cond.instanceMethod yX5_readRow, Cond.selects RX5 yX5_readRow yX5_readRow]
def wsL_law_r11 : List Cond := [Cond.code yX5_readRow cX5_readRow 1 none, Cond.fieldLink RX5 131 "CrossOrName$LandReader" "value" "I", Cond.methodLink RX5 43 yX5_takeLine, Cond.instanceMethod yX5_takeLine, Cond.selects RX5 yX5_takeLine yX5_takeLine, Cond.code yX5_takeLine cX5_takeLine 1 none, Cond.fieldLink RX5 75 "CrossOrName$Land" "learn" "I", Cond.fieldLink RX5 79 "CrossOrName$Land" "leastAge" "I", Cond.fieldLink RX5 82 "CrossOrName$Land" "greatestAge" "I", Cond.fieldLink RX5 87 "CrossOrName$Land" "never" "I", Cond.fieldLink RX5 91 "CrossOrName$Land" "picture" "I", Cond.methodLink RX5 48 yX5_isWord, Cond.instanceMethod yX5_isWord, Cond.selects RX5 yX5_isWord yX5_isWord, Cond.code yX5_isWord cX5_isWord 3 (some .boolean), Cond.methodLink RX5 157 yJ0_length_8abf5, Cond.instanceMethod yJ0_length_8abf5, Cond.selects RJ0 yJ0_length_8abf5 yJ0_length_8abf5, Cond.initialized RJ0, Cond.code yJ0_length_8abf5 cJ0_length_8abf5 1 (some .int), Cond.fieldLink RJ0 9 "java/lang/String" "value" "[B", Cond.methodLink RJ0 335 yJ0_coder_7d493, Cond.instanceMethod yJ0_coder_7d493, Cond.selects RJ0 yJ0_coder_7d493 yJ0_coder_7d493]
def wsL_law_r12 : List Cond := [Cond.code yJ0_coder_7d493 cJ0_coder_7d493 1 (some .byte), Cond.fieldLink RJ0 38 "java/lang/String" "COMPACT_STRINGS" "Z", Cond.fieldLink RJ0 15 "java/lang/String" "coder" "B", Cond.methodLink RX5 162 yJ0_charAt_5068e, Cond.instanceMethod yJ0_charAt_5068e, Cond.selects RJ0 yJ0_charAt_5068e yJ0_charAt_5068e, Cond.code yJ0_charAt_5068e cJ0_charAt_5068e 2 (some .char), Cond.methodLink RJ0 492 yJ0_isLatin1_aae02, Cond.instanceMethod yJ0_isLatin1_aae02, Cond.selects RJ0 yJ0_isLatin1_aae02 yJ0_isLatin1_aae02, Cond.code yJ0_isLatin1_aae02 cJ0_isLatin1_aae02 1 (some .boolean), Cond.methodLink RJ0 495 yJ1_charAt_3b067, Cond.static yJ1_charAt_3b067, Cond.initialized RJ1, Cond.code yJ1_charAt_3b067 cJ1_charAt_3b067 2 (some .char), Cond.methodLink RJ1 9 yJ0_checkIndex_df160, Cond.static yJ0_checkIndex_df160, Cond.code yJ0_checkIndex_df160 cJ0_checkIndex_df160 2 none, Cond.fieldLink RJ0 1053 "jdk/internal/util/Preconditions" "SIOOBE_FORMATTER" "Ljava/util/function/BiFunction;", Cond.methodLink RJ0 1059 yJ3_checkIndex_8e157, Cond.static yJ3_checkIndex_8e157, Cond.initialized RJ3, Cond.code yJ3_checkIndex_8e157 cJ3_checkIndex_8e157 3 (some .int), Cond.methodLink RJ0 498 yJ2_charAt_3b067]
def wsL_law_r13 : List Cond := [Cond.static yJ2_charAt_3b067, Cond.initialized RJ2, Cond.code yJ2_charAt_3b067 cJ2_charAt_3b067 2 (some .char), Cond.methodLink RJ2 67 yJ2_checkIndex_2214a, Cond.static yJ2_checkIndex_2214a, Cond.code yJ2_checkIndex_2214a cJ2_checkIndex_2214a 2 none, Cond.methodLink RJ2 48 yJ2_length_9d52b, Cond.static yJ2_length_9d52b, Cond.code yJ2_length_9d52b cJ2_length_9d52b 1 (some .int), Cond.methodLink RJ2 414 yJ0_checkIndex_df160, Cond.methodLink RJ2 71 yJ2_getChar_3b067, Cond.static yJ2_getChar_3b067, Cond.code yJ2_getChar_3b067 cJ2_getChar_3b067 2 (some .char), Cond.fieldLink RJ2 44 "java/lang/StringUTF16" "$assertionsDisabled" "Z", Cond.fieldLink RJ2 59 "java/lang/StringUTF16" "HI_BYTE_SHIFT" "I", Cond.fieldLink RJ2 63 "java/lang/StringUTF16" "LO_BYTE_SHIFT" "I", Cond.methodLink RX5 52 yX5_takeParish, Cond.instanceMethod yX5_takeParish, Cond.selects RX5 yX5_takeParish yX5_takeParish, Cond.code yX5_takeParish cX5_takeParish 2 none, Cond.fieldLink RX5 99 "CrossOrName$Land" "parishes" "I", Cond.fieldLink RX5 102 "CrossOrName$Land" "parish" "[[I", Cond.methodLink RX5 71 yX5_takeNumber, Cond.instanceMethod yX5_takeNumber]
def wsL_law_r14 : List Cond := [Cond.selects RX5 yX5_takeNumber yX5_takeNumber, Cond.code yX5_takeNumber cX5_takeNumber 4 (some .int), Cond.methodLink RX5 107 yX5_takeWord, Cond.instanceMethod yX5_takeWord, Cond.selects RX5 yX5_takeWord yX5_takeWord, Cond.code yX5_takeWord cX5_takeWord 2 (some .boolean), Cond.methodLink RX5 57 yX5_takeClerk, Cond.instanceMethod yX5_takeClerk, Cond.selects RX5 yX5_takeClerk yX5_takeClerk, Cond.code yX5_takeClerk cX5_takeClerk 2 none, Cond.fieldLink RX5 114 "CrossOrName$Land" "clerks" "I", Cond.fieldLink RX5 117 "CrossOrName$Land" "clerk" "[[I", Cond.methodLink RX5 62 yX5_takeTried, Cond.instanceMethod yX5_takeTried, Cond.selects RX5 yX5_takeTried yX5_takeTried, Cond.code yX5_takeTried cX5_takeTried 2 none, Cond.fieldLink RX5 123 "CrossOrName$Land" "tried" "[I", Cond.methodLink RX5 126 Lib.Math.max.name, Cond.static Lib.Math.max.name, Cond.initialized "java/lang/Math", Cond.code Lib.Math.max.name Lib.Math.max.code 2 (some .int), Cond.methodLink RX5 67 yX5_takeOnce, Cond.instanceMethod yX5_takeOnce, Cond.selects RX5 yX5_takeOnce yX5_takeOnce]
def wsL_law_r15 : List Cond := [Cond.code yX5_takeOnce cX5_takeOnce 2 none, Cond.methodLink RX5 96 yX5_takeStop, Cond.instanceMethod yX5_takeStop, Cond.selects RX5 yX5_takeStop yX5_takeStop, Cond.code yX5_takeStop cX5_takeStop 1 none, Cond.methodLink RX10 122 yX10_takeDraft, Cond.instanceMethod yX10_takeDraft, Cond.selects RX10 yX10_takeDraft yX10_takeDraft, Cond.code yX10_takeDraft cX10_takeDraft 2 none, Cond.fieldLink RX10 179 "CrossOrName$Books" "size" "I", Cond.fieldLink RX10 182 "CrossOrName$Kinds" "stale" "Z", Cond.methodLink RX10 273 yX4_allParishes, Cond.instanceMethod yX4_allParishes, Cond.selects RX4 yX4_allParishes yX4_allParishes, Cond.code yX4_allParishes cX4_allParishes 1 (some .int), Cond.methodLink RX10 403 yX1_becomeAll, Cond.methodLink RL 29 yX11_land, Cond.instanceMethod yX11_land, Cond.selects RX11 yX11_land yX11_land, Cond.code yX11_land cX11_land 3 (some .int), Cond.fieldLink RX11 67 "CrossOrNameModel" "wrong" "I", Cond.fieldLink RX11 79 "CrossOrNameModel" "spot" "I", Cond.fieldLink RX11 115 "CrossOrNameModel" "toldOnes" "I", Cond.fieldLink RX11 76 "CrossOrNameModel" "token" "I"]
def wsL_law_r16 : List Cond := [Cond.fieldLink RX11 135 "CrossOrNameModel" "fault" "I", Cond.fieldLink RX11 73 "CrossOrNameModel" "wrongAt" "I", Cond.methodLink RX11 101 yX11_next2, Cond.instanceMethod yX11_next2, Cond.selects RX11 yX11_next2 yX11_next2, Cond.code yX11_next2 cX11_next2 2 none, Cond.fieldLink RX11 70 "CrossOrNameModel" "place" "I", Cond.fieldLink RX11 86 "CrossOrNameModel" "value" "I", Cond.constantLong RX11 89 (97), Cond.constantLong RX11 91 (122), Cond.constantLong RX11 93 (48), Cond.constantLong RX11 95 (57), Cond.methodLink RX11 82 yX11_byteAt, Cond.instanceMethod yX11_byteAt, Cond.selects RX11 yX11_byteAt yX11_byteAt, Cond.code yX11_byteAt cX11_byteAt 2 (some .int), Cond.methodLink RX11 97 yX11_fails, Cond.instanceMethod yX11_fails, Cond.selects RX11 yX11_fails yX11_fails, Cond.code yX11_fails cX11_fails 2 none, Cond.methodLink RX11 132 yX11_readLine, Cond.instanceMethod yX11_readLine, Cond.selects RX11 yX11_readLine yX11_readLine, Cond.code yX11_readLine cX11_readLine 2 none]
def wsL_law_r17 : List Cond := [Cond.constantLong RX11 118 (6), Cond.methodLink RX11 104 yX11_nameHere, Cond.instanceMethod yX11_nameHere, Cond.selects RX11 yX11_nameHere yX11_nameHere, Cond.code yX11_nameHere cX11_nameHere 4 (some .int), Cond.methodLink RX11 120 yX11_readParish, Cond.instanceMethod yX11_readParish, Cond.selects RX11 yX11_readParish yX11_readParish, Cond.code yX11_readParish cX11_readParish 6 none, Cond.methodLink RX11 108 yX11_number, Cond.instanceMethod yX11_number, Cond.selects RX11 yX11_number yX11_number, Cond.code yX11_number cX11_number 4 (some .int), Cond.methodLink RX11 112 yX11_yearBehind, Cond.instanceMethod yX11_yearBehind, Cond.selects RX11 yX11_yearBehind yX11_yearBehind, Cond.code yX11_yearBehind cX11_yearBehind 2 (some .int), Cond.methodLink RX11 123 yX11_readClerk, Cond.instanceMethod yX11_readClerk, Cond.selects RX11 yX11_readClerk yX11_readClerk, Cond.code yX11_readClerk cX11_readClerk 7 none, Cond.methodLink RX11 126 yX11_readTried, Cond.instanceMethod yX11_readTried, Cond.selects RX11 yX11_readTried yX11_readTried]
def wsL_law_r18 : List Cond := [Cond.code yX11_readTried cX11_readTried 3 none, Cond.methodLink RX11 129 yX11_readRule, Cond.instanceMethod yX11_readRule, Cond.selects RX11 yX11_readRule yX11_readRule, Cond.code yX11_readRule cX11_readRule 2 none, Cond.methodLink RX11 138 yX11_setChoice, Cond.instanceMethod yX11_setChoice, Cond.selects RX11 yX11_setChoice yX11_setChoice, Cond.code yX11_setChoice cX11_setChoice 8 none, Cond.fieldLink RX11 167 "CrossOrNameModel" "isAwake" "Z", Cond.methodLink RL 30 yX10_fault, Cond.instanceMethod yX10_fault, Cond.selects RX10 yX10_fault yX10_fault, Cond.code yX10_fault cX10_fault 1 (some .int), Cond.methodLink RL 33 yX11_fault, Cond.instanceMethod yX11_fault, Cond.selects RX11 yX11_fault yX11_fault, Cond.code yX11_fault cX11_fault 1 (some .int), Cond.methodLink RL 34 yX10_told, Cond.instanceMethod yX10_told, Cond.selects RX10 yX10_told yX10_told, Cond.code yX10_told cX10_told 2 (some .int), Cond.fieldLink RX10 125 "CrossOrName$Land" "parishes" "I", Cond.fieldLink RX10 128 "CrossOrName$Land" "clerks" "I"]
def wsL_law_r19 : List Cond := [Cond.fieldLink RX10 131 "CrossOrName$Land" "learn" "I", Cond.fieldLink RX10 134 "CrossOrName$Land" "leastAge" "I", Cond.fieldLink RX10 137 "CrossOrName$Land" "greatestAge" "I", Cond.fieldLink RX10 140 "CrossOrName$Land" "never" "I", Cond.fieldLink RX10 143 "CrossOrName$Land" "picture" "I", Cond.fieldLink RX10 146 "CrossOrName$Land" "tried" "[I", Cond.methodLink RL 37 yX11_told, Cond.instanceMethod yX11_told, Cond.selects RX11 yX11_told yX11_told, Cond.code yX11_told cX11_told 2 (some .int), Cond.constantLong RX11 142 (10), Cond.methodLink RL 38 yX10_parish, Cond.instanceMethod yX10_parish, Cond.selects RX10 yX10_parish yX10_parish, Cond.code yX10_parish cX10_parish 3 (some .int), Cond.fieldLink RX10 157 "CrossOrName$Land" "parish" "[[I", Cond.methodLink RX10 149 yX10_isParish, Cond.instanceMethod yX10_isParish, Cond.selects RX10 yX10_isParish yX10_isParish, Cond.code yX10_isParish cX10_isParish 2 (some .boolean), Cond.methodLink RX10 153 yX0_marriagesIn, Cond.instanceMethod yX0_marriagesIn, Cond.selects RX0 yX0_marriagesIn yX0_marriagesIn, Cond.code yX0_marriagesIn cX0_marriagesIn 4 (some .int)]
def wsL_law_r20 : List Cond := [Cond.methodLink RL 42 yX11_parish, Cond.instanceMethod yX11_parish, Cond.selects RX11 yX11_parish yX11_parish, Cond.code yX11_parish cX11_parish 5 (some .int), Cond.constantLong RX11 148 (4), Cond.methodLink RX11 144 yX11_isParish, Cond.instanceMethod yX11_isParish, Cond.selects RX11 yX11_isParish yX11_isParish, Cond.code yX11_isParish cX11_isParish 2 (some .boolean), Cond.methodLink RX11 150 yX11_size, Cond.instanceMethod yX11_size, Cond.selects RX11 yX11_size yX11_size, Cond.code yX11_size cX11_size 1 (some .int), Cond.methodLink RX11 153 yX11_its, Cond.instanceMethod yX11_its, Cond.selects RX11 yX11_its yX11_its, Cond.code yX11_its cX11_its 3 (some .int), Cond.methodLink RX11 156 yX11_parishOf, Cond.instanceMethod yX11_parishOf, Cond.selects RX11 yX11_parishOf yX11_parishOf, Cond.code yX11_parishOf cX11_parishOf 3 (some .int), Cond.methodLink RL 43 yX10_clerk, Cond.instanceMethod yX10_clerk, Cond.selects RX10 yX10_clerk yX10_clerk]
def wsL_law_r21 : List Cond := [Cond.code yX10_clerk cX10_clerk 3 (some .int), Cond.fieldLink RX10 160 "CrossOrName$Land" "clerk" "[[I", Cond.methodLink RX10 163 yX3_renew, Cond.instanceMethod yX3_renew, Cond.selects RX3 yX3_renew yX3_renew, Cond.code yX3_renew cX3_renew 4 none, Cond.fieldLink RX3 22 "CrossOrName$Kinds" "books" "LCrossOrName$Books;", Cond.fieldLink RX3 26 "CrossOrName$Kinds" "land" "LCrossOrName$Land;", Cond.fieldLink RX3 40 "CrossOrName$Books" "side" "[[I", Cond.methodLink RX3 30 yX0_marks, Cond.instanceMethod yX0_marks, Cond.selects RX0 yX0_marks yX0_marks, Cond.code yX0_marks cX0_marks 1 (some .int), Cond.methodLink RX3 36 yX3_firstWriter, Cond.instanceMethod yX3_firstWriter, Cond.selects RX3 yX3_firstWriter yX3_firstWriter, Cond.code yX3_firstWriter cX3_firstWriter 4 (some .int), Cond.fieldLink RX3 51 "CrossOrName$Books" "pair" "[[I", Cond.fieldLink RX3 54 "CrossOrName$Land" "clerks" "I", Cond.methodLink RX3 60 yX0_yearOf, Cond.instanceMethod yX0_yearOf, Cond.selects RX0 yX0_yearOf yX0_yearOf, Cond.code yX0_yearOf cX0_yearOf 2 (some .int), Cond.methodLink RX3 63 yX4_writes]
def wsL_law_r22 : List Cond := [Cond.instanceMethod yX4_writes, Cond.selects RX4 yX4_writes yX4_writes, Cond.code yX4_writes cX4_writes 5 (some .boolean), Cond.static yX10_bitsApart, Cond.code yX10_bitsApart cX10_bitsApart 2 (some .int), Cond.methodLink RX10 398 yJ6_bitCount_0f7a4, Cond.static yJ6_bitCount_0f7a4, Cond.initialized RJ6, Cond.code yJ6_bitCount_0f7a4 cJ6_bitCount_0f7a4 1 (some .int), Cond.constant RJ6 265 (1431655765), Cond.constant RJ6 266 (858993459), Cond.constant RJ6 267 (252645135), Cond.methodLink RX3 44 yX3_kindOfName, Cond.instanceMethod yX3_kindOfName, Cond.selects RX3 yX3_kindOfName yX3_kindOfName, Cond.code yX3_kindOfName cX3_kindOfName 2 (some .int), Cond.methodLink RX3 67 yX3_isDrawn, Cond.instanceMethod yX3_isDrawn, Cond.selects RX3 yX3_isDrawn yX3_isDrawn, Cond.code yX3_isDrawn cX3_isDrawn 5 (some .boolean), Cond.fieldLink RX3 78 "CrossOrName$Land" "picture" "I", Cond.methodLink RX3 70 yX0_isOf, Cond.instanceMethod yX0_isOf, Cond.selects RX0 yX0_isOf yX0_isOf]
def wsL_law_r23 : List Cond := [Cond.code yX0_isOf cX0_isOf 4 (some .boolean), Cond.methodLink RX3 47 yX3_wasNamedBefore, Cond.instanceMethod yX3_wasNamedBefore, Cond.selects RX3 yX3_wasNamedBefore yX3_wasNamedBefore, Cond.code yX3_wasNamedBefore cX3_wasNamedBefore 4 (some .boolean), Cond.methodLink RX10 167 yX0_marks, Cond.methodLink RX10 171 yX3_writtenBy, Cond.instanceMethod yX3_writtenBy, Cond.selects RX3 yX3_writtenBy yX3_writtenBy, Cond.code yX3_writtenBy cX3_writtenBy 5 (some .int), Cond.methodLink RL 46 yX11_clerk, Cond.instanceMethod yX11_clerk, Cond.selects RX11 yX11_clerk yX11_clerk, Cond.code yX11_clerk cX11_clerk 5 (some .int), Cond.constantLong RX11 162 (5), Cond.methodLink RX11 159 yX11_isClerk, Cond.instanceMethod yX11_isClerk, Cond.selects RX11 yX11_isClerk yX11_isClerk, Cond.code yX11_isClerk cX11_isClerk 2 (some .boolean), Cond.methodLink RX11 164 yX11_writerOf, Cond.instanceMethod yX11_writerOf, Cond.selects RX11 yX11_writerOf yX11_writerOf, Cond.code yX11_writerOf cX11_writerOf 6 (some .int), Cond.methodLink RX11 198 yX11_of5]
def wsL_law_r24 : List Cond := [Cond.instanceMethod yX11_of5, Cond.selects RX11 yX11_of5 yX11_of5, Cond.code yX11_of5 cX11_of5 4 (some .int), Cond.methodLink RX11 204 yX11_bitsOf, Cond.static yX11_bitsOf, Cond.code yX11_bitsOf cX11_bitsOf 3 (some .int), Cond.methodLink RL 47 yX10_marry, Cond.instanceMethod yX10_marry, Cond.selects RX10 yX10_marry yX10_marry, Cond.code yX10_marry cX10_marry 6 (some .int), Cond.methodLink RX10 175 yX10_isMarriage, Cond.instanceMethod yX10_isMarriage, Cond.selects RX10 yX10_isMarriage yX10_isMarriage, Cond.code yX10_isMarriage cX10_isMarriage 6 (some .boolean), Cond.methodLink RX10 186 yX0_append, Cond.instanceMethod yX0_append, Cond.selects RX0 yX0_append yX0_append, Cond.code yX0_append cX0_append 7 (some .int), Cond.methodLink RX0 23 yX0_startSide, Cond.instanceMethod yX0_startSide, Cond.selects RX0 yX0_startSide yX0_startSide, Cond.code yX0_startSide cX0_startSide 3 none, Cond.methodLink RL 51 yX11_marry, Cond.instanceMethod yX11_marry]
def wsL_law_r25 : List Cond := [Cond.selects RX11 yX11_marry yX11_marry, Cond.code yX11_marry cX11_marry 6 (some .int), Cond.methodLink RX11 175 yX11_isMarry, Cond.instanceMethod yX11_isMarry, Cond.selects RX11 yX11_isMarry yX11_isMarry, Cond.code yX11_isMarry cX11_isMarry 6 (some .boolean), Cond.constantLong RX11 171 (89), Cond.constantLong RX11 173 (7), Cond.methodLink RX11 179 yX11_adds, Cond.instanceMethod yX11_adds, Cond.selects RX11 yX11_adds yX11_adds, Cond.code yX11_adds cX11_adds 8 none, Cond.methodLink RL 52 yX10_set, Cond.instanceMethod yX10_set, Cond.selects RX10 yX10_set yX10_set, Cond.code yX10_set cX10_set 7 (some .int), Cond.fieldLink RX10 196 "CrossOrName$Books" "side" "[[I", Cond.methodLink RX10 189 yX10_isMark, Cond.instanceMethod yX10_isMark, Cond.selects RX10 yX10_isMark yX10_isMark, Cond.code yX10_isMark cX10_isMark 3 (some .boolean), Cond.methodLink RX10 199 yX10_isInBooks, Cond.instanceMethod yX10_isInBooks, Cond.selects RX10 yX10_isInBooks yX10_isInBooks]
def wsL_law_r26 : List Cond := [Cond.code yX10_isInBooks cX10_isInBooks 2 (some .boolean), Cond.methodLink RX10 193 yX10_mayBe, Cond.static yX10_mayBe, Cond.code yX10_mayBe cX10_mayBe 2 (some .boolean), Cond.methodLink RL 56 yX11_set, Cond.instanceMethod yX11_set, Cond.selects RX11 yX11_set yX11_set, Cond.code yX11_set cX11_set 7 (some .int), Cond.methodLink RX11 191 yX11_isMark, Cond.instanceMethod yX11_isMark, Cond.selects RX11 yX11_isMark yX11_isMark, Cond.code yX11_isMark cX11_isMark 3 (some .boolean), Cond.methodLink RX11 195 yX11_isValue, Cond.static yX11_isValue, Cond.code yX11_isValue cX11_isValue 2 (some .boolean), Cond.constantLong RX11 183 (16), Cond.constantLong RX11 185 (60), Cond.constantLong RX11 187 (255), Cond.constantLong RX11 189 (99), Cond.methodLink RL 57 yX10_of, Cond.instanceMethod yX10_of, Cond.selects RX10 yX10_of yX10_of, Cond.code yX10_of cX10_of 3 (some .int), Cond.fieldLink RX10 202 "CrossOrName$Books" "pair" "[[I"]
def wsL_law_r27 : List Cond := [Cond.methodLink RL 60 yX11_of, Cond.instanceMethod yX11_of, Cond.selects RX11 yX11_of yX11_of, Cond.code yX11_of cX11_of 3 (some .int), Cond.constantLong RX11 202 (2), Cond.methodLink RL 61 yX10_has, Cond.instanceMethod yX10_has, Cond.selects RX10 yX10_has yX10_has, Cond.code yX10_has cX10_has 4 (some .int), Cond.methodLink RL 65 yX11_has, Cond.instanceMethod yX11_has, Cond.selects RX11 yX11_has yX11_has, Cond.code yX11_has cX11_has 4 (some .int), Cond.methodLink RL 66 yX10_kind, Cond.instanceMethod yX10_kind, Cond.selects RX10 yX10_kind yX10_kind, Cond.code yX10_kind cX10_kind 3 (some .int), Cond.fieldLink RX10 205 "CrossOrName$Kinds" "kind" "[I", Cond.methodLink RL 69 yX11_kind, Cond.instanceMethod yX11_kind, Cond.selects RX11 yX11_kind yX11_kind, Cond.code yX11_kind cX11_kind 3 (some .int), Cond.methodLink RX11 216 yX11_kindOf, Cond.instanceMethod yX11_kindOf]
def wsL_law_r28 : List Cond := [Cond.selects RX11 yX11_kindOf yX11_kindOf, Cond.code yX11_kindOf cX11_kindOf 6 (some .int), Cond.methodLink RX11 213 yX11_nameKind, Cond.instanceMethod yX11_nameKind, Cond.selects RX11 yX11_nameKind yX11_nameKind, Cond.code yX11_nameKind cX11_nameKind 3 (some .int), Cond.methodLink RX11 210 yX11_isDrawn, Cond.instanceMethod yX11_isDrawn, Cond.selects RX11 yX11_isDrawn yX11_isDrawn, Cond.code yX11_isDrawn cX11_isDrawn 8 (some .boolean), Cond.methodLink RX11 207 yX11_isOwnName, Cond.instanceMethod yX11_isOwnName, Cond.selects RX11 yX11_isOwnName yX11_isOwnName, Cond.code yX11_isOwnName cX11_isOwnName 3 (some .boolean), Cond.methodLink RL 70 yX10_writer, Cond.instanceMethod yX10_writer, Cond.selects RX10 yX10_writer yX10_writer, Cond.code yX10_writer cX10_writer 3 (some .int), Cond.fieldLink RX10 208 "CrossOrName$Kinds" "writer" "[I", Cond.methodLink RL 73 yX11_writer, Cond.instanceMethod yX11_writer, Cond.selects RX11 yX11_writer yX11_writer, Cond.code yX11_writer cX11_writer 3 (some .int), Cond.methodLink RL 74 yX10_apart]
def wsL_law_r29 : List Cond := [Cond.instanceMethod yX10_apart, Cond.selects RX10 yX10_apart yX10_apart, Cond.code yX10_apart cX10_apart 3 (some .int), Cond.methodLink RX10 211 yX10_bitsApart, Cond.methodLink RL 77 yX11_apart, Cond.instanceMethod yX11_apart, Cond.selects RX11 yX11_apart yX11_apart, Cond.code yX11_apart cX11_apart 3 (some .int), Cond.methodLink RL 78 yX10_tear, Cond.instanceMethod yX10_tear, Cond.selects RX10 yX10_tear yX10_tear, Cond.code yX10_tear cX10_tear 2 (some .int), Cond.methodLink RX10 214 yX0_drop, Cond.instanceMethod yX0_drop, Cond.selects RX0 yX0_drop yX0_drop, Cond.code yX0_drop cX0_drop 4 none, Cond.methodLink RX0 27 arraycopyName, Cond.native arraycopyName, Cond.static arraycopyName, Cond.initialized "java/lang/System", Cond.methodLink RL 81 yX11_tear, Cond.instanceMethod yX11_tear, Cond.selects RX11 yX11_tear yX11_tear, Cond.code yX11_tear cX11_tear 3 (some .int)]
def wsL_law_r30 : List Cond := [Cond.methodLink RL 82 yX10_choose, Cond.instanceMethod yX10_choose, Cond.selects RX10 yX10_choose yX10_choose, Cond.code yX10_choose cX10_choose 7 (some .int), Cond.methodLink RX10 218 yX10_isChoice, Cond.static yX10_isChoice, Cond.code yX10_isChoice cX10_isChoice 1 (some .boolean), Cond.methodLink RX10 221 yX10_areParishes, Cond.instanceMethod yX10_areParishes, Cond.selects RX10 yX10_areParishes yX10_areParishes, Cond.code yX10_areParishes cX10_areParishes 2 (some .boolean), Cond.methodLink RX10 224 yX1_become, Cond.methodLink RX10 228 yX10_howMany, Cond.instanceMethod yX10_howMany, Cond.selects RX10 yX10_howMany yX10_howMany, Cond.code yX10_howMany cX10_howMany 5 (some .int), Cond.methodLink RX10 406 yX1_takes, Cond.instanceMethod yX1_takes, Cond.selects RX1 yX1_takes yX1_takes, Cond.code yX1_takes cX1_takes 4 (some .boolean), Cond.fieldLink RX1 35 "CrossOrName$Books" "pair" "[[I", Cond.static yX10_hasBit, Cond.code yX10_hasBit cX10_hasBit 2 (some .boolean), Cond.methodLink RX10 410 yX10_isOfSort]
def wsL_law_r31 : List Cond := [Cond.instanceMethod yX10_isOfSort, Cond.selects RX10 yX10_isOfSort yX10_isOfSort, Cond.code yX10_isOfSort cX10_isOfSort 3 (some .boolean), Cond.methodLink RX10 413 yX3_isAble, Cond.instanceMethod yX3_isAble, Cond.selects RX3 yX3_isAble yX3_isAble, Cond.code yX3_isAble cX3_isAble 2 (some .boolean), Cond.methodLink RL 86 yX11_choose, Cond.instanceMethod yX11_choose, Cond.selects RX11 yX11_choose yX11_choose, Cond.code yX11_choose cX11_choose 7 (some .int), Cond.constantLong RX11 225 (3), Cond.fieldLink RX11 234 "CrossOrNameModel" "all" "I", Cond.methodLink RX11 222 yX11_isChoice, Cond.static yX11_isChoice, Cond.code yX11_isChoice cX11_isChoice 1 (some .boolean), Cond.methodLink RX11 219 yX11_awake, Cond.instanceMethod yX11_awake, Cond.selects RX11 yX11_awake yX11_awake, Cond.code yX11_awake cX11_awake 1 none, Cond.methodLink RX11 227 yX11_layKinds, Cond.instanceMethod yX11_layKinds, Cond.selects RX11 yX11_layKinds yX11_layKinds, Cond.code yX11_layKinds cX11_layKinds 2 none]
def wsL_law_r32 : List Cond := [Cond.methodLink RX11 230 yX11_tally, Cond.instanceMethod yX11_tally, Cond.selects RX11 yX11_tally yX11_tally, Cond.code yX11_tally cX11_tally 5 none, Cond.fieldLink RX11 237 "CrossOrNameModel" "able" "I", Cond.methodLink RX11 240 yX11_isIn, Cond.instanceMethod yX11_isIn, Cond.selects RX11 yX11_isIn yX11_isIn, Cond.code yX11_isIn cX11_isIn 5 (some .boolean), Cond.methodLink RX11 243 yX11_groupOf, Cond.instanceMethod yX11_groupOf, Cond.selects RX11 yX11_groupOf yX11_groupOf, Cond.code yX11_groupOf cX11_groupOf 4 (some .int), Cond.methodLink RX11 246 yX11_isAble, Cond.instanceMethod yX11_isAble, Cond.selects RX11 yX11_isAble yX11_isAble, Cond.code yX11_isAble cX11_isAble 2 (some .boolean), Cond.methodLink RL 87 yX10_many, Cond.instanceMethod yX10_many, Cond.selects RX10 yX10_many yX10_many, Cond.code yX10_many cX10_many 3 (some .int), Cond.methodLink RL 90 yX11_many, Cond.instanceMethod yX11_many, Cond.selects RX11 yX11_many yX11_many]
def wsL_law_r33 : List Cond := [Cond.code yX11_many cX11_many 6 (some .int), Cond.constantLong RX11 249 (11), Cond.constantLong RX11 251 (15), Cond.methodLink RL 91 yX10_share, Cond.instanceMethod yX10_share, Cond.selects RX10 yX10_share yX10_share, Cond.code yX10_share cX10_share 3 (some .int), Cond.methodLink RX10 231 yX10_fractionOrNone, Cond.instanceMethod yX10_fractionOrNone, Cond.selects RX10 yX10_fractionOrNone yX10_fractionOrNone, Cond.code yX10_fractionOrNone cX10_fractionOrNone 4 (some .int), Cond.methodLink RX10 281 yX6_become, Cond.instanceMethod yX6_become, Cond.selects RX6 yX6_become yX6_become, Cond.code yX6_become cX6_become 7 none, Cond.methodLink RX6 16 Lib.MathLoose.abs_long.x, Cond.static Lib.MathLoose.abs_long.x, Cond.code Lib.MathLoose.abs_long.x Lib.MathLoose.abs_long.code 2 (some .long), Cond.methodLink RX6 22 yX6_commonOf, Cond.static yX6_commonOf, Cond.code yX6_commonOf cX6_commonOf 11 (some .long), Cond.methodLink RX10 297 yX6_part, Cond.instanceMethod yX6_part, Cond.selects RX6 yX6_part yX6_part]
def wsL_law_r34 : List Cond := [Cond.code yX6_part cX6_part 2 (some .long), Cond.methodLink RL 94 yX11_share, Cond.instanceMethod yX11_share, Cond.selects RX11 yX11_share yX11_share, Cond.code yX11_share cX11_share 3 (some .int), Cond.methodLink RX11 257 yX11_lowest, Cond.static yX11_lowest, Cond.code yX11_lowest cX11_lowest 5 (some .long), Cond.methodLink RX11 253 yX11_common, Cond.static yX11_common, Cond.code yX11_common cX11_common 10 (some .long), Cond.methodLink RL 95 yX10_best, Cond.instanceMethod yX10_best, Cond.selects RX10 yX10_best yX10_best, Cond.code yX10_best cX10_best 6 (some .int), Cond.fieldLink RX10 242 "CrossOrName$Tally" "marks" "[I", Cond.fieldLink RX10 244 "CrossOrName$Tally" "able" "[I", Cond.methodLink RX10 235 yX10_tallyGroups, Cond.instanceMethod yX10_tallyGroups, Cond.selects RX10 yX10_tallyGroups yX10_tallyGroups, Cond.code yX10_tallyGroups cX10_tallyGroups 5 none, Cond.methodLink RX10 422 yX8_clear, Cond.instanceMethod yX8_clear, Cond.selects RX8 yX8_clear yX8_clear]
def wsL_law_r35 : List Cond := [Cond.code yX8_clear cX8_clear 2 none, Cond.methodLink RX10 424 yX0_groupOf, Cond.instanceMethod yX0_groupOf, Cond.selects RX0 yX0_groupOf yX0_groupOf, Cond.code yX0_groupOf cX0_groupOf 3 (some .int), Cond.methodLink RX10 427 yX8_add, Cond.instanceMethod yX8_add, Cond.selects RX8 yX8_add yX8_add, Cond.code yX8_add cX8_add 3 none, Cond.methodLink RX10 239 yX8_greatestShare, Cond.instanceMethod yX8_greatestShare, Cond.selects RX8 yX8_greatestShare yX8_greatestShare, Cond.code yX8_greatestShare cX8_greatestShare 4 (some .int), Cond.methodLink RL 98 yX11_best, Cond.instanceMethod yX11_best, Cond.selects RX11 yX11_best yX11_best, Cond.code yX11_best cX11_best 9 (some .int), Cond.methodLink RX11 261 yX11_groupMany, Cond.instanceMethod yX11_groupMany, Cond.selects RX11 yX11_groupMany yX11_groupMany, Cond.code yX11_groupMany cX11_groupMany 2 (some .int), Cond.methodLink RL 99 yX10_pairs, Cond.instanceMethod yX10_pairs, Cond.selects RX10 yX10_pairs yX10_pairs]
def wsL_law_r36 : List Cond := [Cond.code yX10_pairs cX10_pairs 3 (some .int), Cond.methodLink RX10 247 yX10_howManyPairs, Cond.instanceMethod yX10_howManyPairs, Cond.selects RX10 yX10_howManyPairs yX10_howManyPairs, Cond.code yX10_howManyPairs cX10_howManyPairs 6 (some .int), Cond.methodLink RL 102 yX11_pairs, Cond.instanceMethod yX11_pairs, Cond.selects RX11 yX11_pairs yX11_pairs, Cond.code yX11_pairs cX11_pairs 3 (some .int), Cond.methodLink RX11 264 yX11_pairsOf, Cond.instanceMethod yX11_pairsOf, Cond.selects RX11 yX11_pairsOf yX11_pairsOf, Cond.code yX11_pairsOf cX11_pairsOf 7 (some .int), Cond.methodLink RL 103 yX10_spared, Cond.instanceMethod yX10_spared, Cond.selects RX10 yX10_spared yX10_spared, Cond.code yX10_spared cX10_spared 8 (some .int), Cond.methodLink RX10 250 Lib.Math.max.name, Cond.methodLink RL 106 yX11_spared, Cond.instanceMethod yX11_spared, Cond.selects RX11 yX11_spared yX11_spared, Cond.code yX11_spared cX11_spared 8 (some .int), Cond.methodLink RL 107 yX10_learnt, Cond.instanceMethod yX10_learnt]
def wsL_law_r37 : List Cond := [Cond.selects RX10 yX10_learnt yX10_learnt, Cond.code yX10_learnt cX10_learnt 5 (some .int), Cond.methodLink RX10 255 yX10_areLearntYears, Cond.static yX10_areLearntYears, Cond.code yX10_areLearntYears cX10_areLearntYears 2 (some .boolean), Cond.methodLink RX10 258 yX10_howManyLearnt, Cond.instanceMethod yX10_howManyLearnt, Cond.selects RX10 yX10_howManyLearnt yX10_howManyLearnt, Cond.code yX10_howManyLearnt cX10_howManyLearnt 8 (some .int), Cond.methodLink RX10 416 yX10_howSurelyLearnt, Cond.instanceMethod yX10_howSurelyLearnt, Cond.selects RX10 yX10_howSurelyLearnt yX10_howSurelyLearnt, Cond.code yX10_howSurelyLearnt cX10_howSurelyLearnt 8 (some .int), Cond.methodLink RX10 419 yX0_yearOf, Cond.methodLink RL 110 yX11_learnt, Cond.instanceMethod yX11_learnt, Cond.selects RX11 yX11_learnt yX11_learnt, Cond.code yX11_learnt cX11_learnt 5 (some .int), Cond.fieldLink RX11 267 "CrossOrNameModel" "surely" "I", Cond.fieldLink RX11 270 "CrossOrNameModel" "perhaps" "I", Cond.fieldLink RX11 273 "CrossOrNameModel" "surelyAble" "I", Cond.fieldLink RX11 276 "CrossOrNameModel" "perhapsAble" "I", Cond.methodLink RX11 281 yX11_isSpan, Cond.static yX11_isSpan]
def wsL_law_r38 : List Cond := [Cond.code yX11_isSpan cX11_isSpan 2 (some .boolean), Cond.constantLong RX11 279 (-60), Cond.methodLink RX11 284 yX11_layLearnt, Cond.instanceMethod yX11_layLearnt, Cond.selects RX11 yX11_layLearnt yX11_layLearnt, Cond.code yX11_layLearnt cX11_layLearnt 11 none, Cond.methodLink RL 111 yX10_bounds, Cond.instanceMethod yX10_bounds, Cond.selects RX10 yX10_bounds yX10_bounds, Cond.code yX10_bounds cX10_bounds 9 (some .int), Cond.methodLink RL 114 yX11_bounds, Cond.instanceMethod yX11_bounds, Cond.selects RX11 yX11_bounds yX11_bounds, Cond.code yX11_bounds cX11_bounds 7 (some .int), Cond.methodLink RL 115 yX10_tens, Cond.instanceMethod yX10_tens, Cond.selects RX10 yX10_tens yX10_tens, Cond.code yX10_tens cX10_tens 4 (some .int), Cond.methodLink RX10 262 yX10_tallyTens, Cond.instanceMethod yX10_tallyTens, Cond.selects RX10 yX10_tallyTens yX10_tallyTens, Cond.code yX10_tallyTens cX10_tallyTens 5 none, Cond.methodLink RX10 265 yX8_mostMarks, Cond.instanceMethod yX8_mostMarks]
def wsL_law_r39 : List Cond := [Cond.selects RX8 yX8_mostMarks yX8_mostMarks, Cond.code yX8_mostMarks cX8_mostMarks 3 (some .int), Cond.methodLink RL 118 yX11_tens, Cond.instanceMethod yX11_tens, Cond.selects RX11 yX11_tens yX11_tens, Cond.code yX11_tens cX11_tens 9 (some .int), Cond.methodLink RL 119 yX10_span, Cond.instanceMethod yX10_span, Cond.selects RX10 yX10_span yX10_span, Cond.code yX10_span cX10_span 5 (some .long), Cond.constantLong RX10 268 (-1), Cond.constantLong RX10 279 (-4), Cond.fieldLink RX10 290 "CrossOrName$Ratio" "top" "J", Cond.fieldLink RX10 294 "CrossOrName$Ratio" "bottom" "J", Cond.methodLink RX10 270 yX10_allHaveMarks, Cond.instanceMethod yX10_allHaveMarks, Cond.selects RX10 yX10_allHaveMarks yX10_allHaveMarks, Cond.code yX10_allHaveMarks cX10_allHaveMarks 3 (some .boolean), Cond.methodLink RX10 284 yX10_hasBit, Cond.methodLink RX10 276 yX4_marriagesOf, Cond.instanceMethod yX4_marriagesOf, Cond.selects RX4 yX4_marriagesOf yX4_marriagesOf, Cond.code yX4_marriagesOf cX4_marriagesOf 4 (some .int), Cond.methodLink RX10 287 yX6_add]
def wsL_law_r40 : List Cond := [Cond.instanceMethod yX6_add, Cond.selects RX6 yX6_add yX6_add, Cond.code yX6_add cX6_add 7 none, Cond.methodLink RX6 26 yX6_become, Cond.methodLink RL 123 yX11_span, Cond.instanceMethod yX11_span, Cond.selects RX11 yX11_span yX11_span, Cond.code yX11_span cX11_span 5 (some .long), Cond.constantLong RX11 300 (-1), Cond.constantLong RX11 302 (-4), Cond.fieldLink RX11 287 "CrossOrNameModel" "sumUp" "J", Cond.fieldLink RX11 291 "CrossOrNameModel" "sumDown" "J", Cond.methodLink RX11 297 yX11_areDrawn, Cond.instanceMethod yX11_areDrawn, Cond.selects RX11 yX11_areDrawn yX11_areDrawn, Cond.code yX11_areDrawn cX11_areDrawn 2 (some .boolean), Cond.methodLink RX11 294 yX11_marked, Cond.instanceMethod yX11_marked, Cond.selects RX11 yX11_marked yX11_marked, Cond.code yX11_marked cX11_marked 3 (some .int), Cond.methodLink RX11 304 yX11_nothing, Cond.instanceMethod yX11_nothing, Cond.selects RX11 yX11_nothing yX11_nothing, Cond.code yX11_nothing cX11_nothing 1 none]
def wsL_law_r41 : List Cond := [Cond.methodLink RX11 307 yX11_allMarriages, Cond.instanceMethod yX11_allMarriages, Cond.selects RX11 yX11_allMarriages yX11_allMarriages, Cond.code yX11_allMarriages cX11_allMarriages 3 (some .int), Cond.methodLink RX11 310 yX11_plus, Cond.instanceMethod yX11_plus, Cond.selects RX11 yX11_plus yX11_plus, Cond.code yX11_plus cX11_plus 15 none, Cond.methodLink RL 124 yX10_next, Cond.instanceMethod yX10_next, Cond.selects RX10 yX10_next yX10_next, Cond.code yX10_next cX10_next 3 (some .int), Cond.methodLink RX10 301 yX10_largestBelow, Cond.instanceMethod yX10_largestBelow, Cond.selects RX10 yX10_largestBelow yX10_largestBelow, Cond.code yX10_largestBelow cX10_largestBelow 6 (some .int), Cond.methodLink RL 127 yX11_next, Cond.instanceMethod yX11_next, Cond.selects RX11 yX11_next yX11_next, Cond.code yX11_next cX11_next 5 (some .int), Cond.methodLink RL 128 yX10_enough, Cond.instanceMethod yX10_enough, Cond.selects RX10 yX10_enough yX10_enough, Cond.code yX10_enough cX10_enough 7 (some .int)]
def wsL_law_r42 : List Cond := [Cond.methodLink RX10 304 yX10_leastDrawn, Cond.static yX10_leastDrawn, Cond.code yX10_leastDrawn cX10_leastDrawn 3 (some .int), Cond.methodLink RX10 307 yX10_fewestBelow, Cond.instanceMethod yX10_fewestBelow, Cond.selects RX10 yX10_fewestBelow yX10_fewestBelow, Cond.code yX10_fewestBelow cX10_fewestBelow 7 (some .int), Cond.methodLink RX10 310 yX10_leastBits, Cond.instanceMethod yX10_leastBits, Cond.selects RX10 yX10_leastBits yX10_leastBits, Cond.code yX10_leastBits cX10_leastBits 8 (some .int), Cond.methodLink RL 131 yX11_enough, Cond.instanceMethod yX11_enough, Cond.selects RX11 yX11_enough yX11_enough, Cond.code yX11_enough cX11_enough 10 (some .int), Cond.constantLong RX11 314 (999), Cond.methodLink RL 132 yX10_reading, Cond.instanceMethod yX10_reading, Cond.selects RX10 yX10_reading yX10_reading, Cond.code yX10_reading cX10_reading 5 (some .long), Cond.methodLink RL 135 yX11_reading, Cond.instanceMethod yX11_reading, Cond.selects RX11 yX11_reading yX11_reading, Cond.code yX11_reading cX11_reading 5 (some .long)]
def wsL_law_r43 : List Cond := [Cond.methodLink RL 136 yX10_unwed, Cond.instanceMethod yX10_unwed, Cond.selects RX10 yX10_unwed yX10_unwed, Cond.code yX10_unwed cX10_unwed 5 (some .int), Cond.methodLink RL 139 yX11_unwed, Cond.instanceMethod yX11_unwed, Cond.selects RX11 yX11_unwed yX11_unwed, Cond.code yX11_unwed cX11_unwed 4 (some .int), Cond.methodLink RL 140 yX10_parts, Cond.instanceMethod yX10_parts, Cond.selects RX10 yX10_parts yX10_parts, Cond.code yX10_parts cX10_parts 4 (some .long), Cond.fieldLink RX10 313 "CrossOrName$Tally" "allMarks" "I", Cond.methodLink RX10 316 yX10_addMore, Cond.instanceMethod yX10_addMore, Cond.selects RX10 yX10_addMore yX10_addMore, Cond.code yX10_addMore cX10_addMore 6 none, Cond.methodLink RX10 435 yX10_ableOf, Cond.static yX10_ableOf, Cond.code yX10_ableOf cX10_ableOf 3 (some .int), Cond.methodLink RX10 432 yX10_marksOf, Cond.static yX10_marksOf, Cond.code yX10_marksOf cX10_marksOf 3 (some .int), Cond.methodLink RX10 438 yX10_bottomOf]
def wsL_law_r44 : List Cond := [Cond.instanceMethod yX10_bottomOf, Cond.selects RX10 yX10_bottomOf yX10_bottomOf, Cond.code yX10_bottomOf cX10_bottomOf 2 (some .long), Cond.constantLong RX10 430 (2), Cond.methodLink RX10 319 yX10_addBetter, Cond.instanceMethod yX10_addBetter, Cond.selects RX10 yX10_addBetter yX10_addBetter, Cond.code yX10_addBetter cX10_addBetter 6 none, Cond.methodLink RL 143 yX11_parts, Cond.instanceMethod yX11_parts, Cond.selects RX11 yX11_parts yX11_parts, Cond.code yX11_parts cX11_parts 30 (some .long), Cond.methodLink RL 144 yX10_worth, Cond.instanceMethod yX10_worth, Cond.selects RX10 yX10_worth yX10_worth, Cond.code yX10_worth cX10_worth 5 (some .int), Cond.constant RX10 322 (-1000000), Cond.constant RX10 327 (-1000004), Cond.methodLink RX10 323 yX10_tallyQuarters, Cond.instanceMethod yX10_tallyQuarters, Cond.selects RX10 yX10_tallyQuarters yX10_tallyQuarters, Cond.code yX10_tallyQuarters cX10_tallyQuarters 6 none, Cond.methodLink RL 147 yX11_worth, Cond.instanceMethod yX11_worth]
def wsL_law_r45 : List Cond := [Cond.selects RX11 yX11_worth yX11_worth, Cond.code yX11_worth cX11_worth 14 (some .int), Cond.constant RX11 316 (-1000000), Cond.constant RX11 317 (-1000004), Cond.methodLink RL 148 yX10_person, Cond.instanceMethod yX10_person, Cond.selects RX10 yX10_person yX10_person, Cond.code yX10_person cX10_person 4 (some .int), Cond.methodLink RX10 328 yX0_marksOf, Cond.instanceMethod yX0_marksOf, Cond.selects RX0 yX0_marksOf yX0_marksOf, Cond.code yX0_marksOf cX0_marksOf 5 (some .int), Cond.methodLink RX0 33 yX0_marks, Cond.methodLink RX0 37 yX0_isOf, Cond.methodLink RX10 331 yX0_changedFrom, Cond.instanceMethod yX0_changedFrom, Cond.selects RX0 yX0_changedFrom yX0_changedFrom, Cond.code yX0_changedFrom cX0_changedFrom 6 (some .boolean), Cond.methodLink RX0 45 Lib.Math.min.name, Cond.static Lib.Math.min.name, Cond.code Lib.Math.min.name Lib.Math.min.code 2 (some .int), Cond.methodLink RX0 51 Lib.Math.max.name, Cond.methodLink RX0 41 yX0_yearOf, Cond.methodLink RX10 334 yX0_mostApart]
def wsL_law_r46 : List Cond := [Cond.instanceMethod yX0_mostApart, Cond.selects RX0 yX0_mostApart yX0_mostApart, Cond.code yX0_mostApart cX0_mostApart 5 (some .int), Cond.methodLink RL 151 yX11_person, Cond.instanceMethod yX11_person, Cond.selects RX11 yX11_person yX11_person, Cond.code yX11_person cX11_person 3 (some .int), Cond.methodLink RX11 318 yX11_marksOf, Cond.instanceMethod yX11_marksOf, Cond.selects RX11 yX11_marksOf yX11_marksOf, Cond.code yX11_marksOf cX11_marksOf 5 (some .int), Cond.methodLink RX11 321 yX11_isLater, Cond.instanceMethod yX11_isLater, Cond.selects RX11 yX11_isLater yX11_isLater, Cond.code yX11_isLater cX11_isLater 8 (some .boolean), Cond.methodLink RX11 325 yX11_widest, Cond.instanceMethod yX11_widest, Cond.selects RX11 yX11_widest yX11_widest, Cond.code yX11_widest cX11_widest 7 (some .int), Cond.methodLink RL 152 yX10_twice, Cond.instanceMethod yX10_twice, Cond.selects RX10 yX10_twice yX10_twice, Cond.code yX10_twice cX10_twice 6 (some .int), Cond.methodLink RX10 337 yX10_tallyPersons]
def wsL_law_r47 : List Cond := [Cond.instanceMethod yX10_tallyPersons, Cond.selects RX10 yX10_tallyPersons yX10_tallyPersons, Cond.code yX10_tallyPersons cX10_tallyPersons 2 none, Cond.methodLink RL 155 yX11_twice, Cond.instanceMethod yX11_twice, Cond.selects RX11 yX11_twice yX11_twice, Cond.code yX11_twice cX11_twice 8 (some .int), Cond.methodLink RL 156 yX10_find, Cond.instanceMethod yX10_find, Cond.selects RX10 yX10_find yX10_find, Cond.code yX10_find cX10_find 9 (some .int), Cond.methodLink RX10 340 yX10_gatherHands, Cond.instanceMethod yX10_gatherHands, Cond.selects RX10 yX10_gatherHands yX10_gatherHands, Cond.code yX10_gatherHands cX10_gatherHands 4 (some .int), Cond.methodLink RX10 343 yX10_howManyNear, Cond.instanceMethod yX10_howManyNear, Cond.selects RX10 yX10_howManyNear yX10_howManyNear, Cond.code yX10_howManyNear cX10_howManyNear 6 (some .int), Cond.methodLink RL 159 yX11_find, Cond.instanceMethod yX11_find, Cond.selects RX11 yX11_find yX11_find, Cond.code yX11_find cX11_find 10 (some .int), Cond.methodLink RL 160 yX10_keep]
def wsL_law_r48 : List Cond := [Cond.instanceMethod yX10_keep, Cond.selects RX10 yX10_keep yX10_keep, Cond.code yX10_keep cX10_keep 4 (some .int), Cond.fieldLink RX10 346 "CrossOrName$Image" "kept" "Z", Cond.fieldLink RX10 349 "CrossOrName$Image" "books" "LCrossOrName$Books;", Cond.fieldLink RX10 354 "CrossOrName$Image" "first" "LCrossOrName$Choice;", Cond.fieldLink RX10 361 "CrossOrName$Image" "second" "LCrossOrName$Choice;", Cond.methodLink RX10 350 yX0_copy, Cond.instanceMethod yX0_copy, Cond.selects RX0 yX0_copy yX0_copy, Cond.code yX0_copy cX0_copy 3 none, Cond.methodLink RX10 358 yX1_copy, Cond.instanceMethod yX1_copy, Cond.selects RX1 yX1_copy yX1_copy, Cond.code yX1_copy cX1_copy 2 none, Cond.methodLink RL 163 yX11_keep, Cond.instanceMethod yX11_keep, Cond.selects RX11 yX11_keep yX11_keep, Cond.code yX11_keep cX11_keep 3 (some .int), Cond.methodLink RL 164 yX10_back, Cond.instanceMethod yX10_back, Cond.selects RX10 yX10_back yX10_back, Cond.code yX10_back cX10_back 3 (some .int), Cond.fieldLink RX10 367 "CrossOrName$Choice" "parishes" "I"]
def wsL_law_r49 : List Cond := [Cond.methodLink RX10 364 yX0_areAllBelow, Cond.instanceMethod yX0_areAllBelow, Cond.selects RX0 yX0_areAllBelow yX0_areAllBelow, Cond.code yX0_areAllBelow cX0_areAllBelow 3 (some .boolean), Cond.methodLink RL 167 yX11_back, Cond.instanceMethod yX11_back, Cond.selects RX11 yX11_back yX11_back, Cond.code yX11_back cX11_back 5 (some .int), Cond.methodLink RL 168 yX10_sheet, Cond.instanceMethod yX10_sheet, Cond.selects RX10 yX10_sheet yX10_sheet, Cond.code yX10_sheet cX10_sheet 4 (some .int), Cond.methodLink RX10 368 yX10_isSheet, Cond.static yX10_isSheet, Cond.code yX10_isSheet cX10_isSheet 1 (some .boolean), Cond.methodLink RX10 371 yX10_isLane, Cond.static yX10_isLane, Cond.code yX10_isLane cX10_isLane 1 (some .boolean), Cond.methodLink RX10 374 yX7_clear, Cond.instanceMethod yX7_clear, Cond.selects RX7 yX7_clear yX7_clear, Cond.code yX7_clear cX7_clear 4 none, Cond.methodLink RL 171 yX11_sheet, Cond.instanceMethod yX11_sheet]
def wsL_law_r50 : List Cond := [Cond.selects RX11 yX11_sheet yX11_sheet, Cond.code yX11_sheet cX11_sheet 5 (some .int), Cond.methodLink RL 172 yX10_lay, Cond.instanceMethod yX10_lay, Cond.selects RX10 yX10_lay yX10_lay, Cond.code yX10_lay cX10_lay 5 (some .int), Cond.fieldLink RX10 377 "CrossOrName$Sheet" "size" "I", Cond.methodLink RX10 378 yX7_put, Cond.instanceMethod yX7_put, Cond.selects RX7 yX7_put yX7_put, Cond.code yX7_put cX7_put 3 none, Cond.methodLink RL 175 yX11_lay, Cond.instanceMethod yX11_lay, Cond.selects RX11 yX11_lay yX11_lay, Cond.code yX11_lay cX11_lay 4 (some .int), Cond.methodLink RL 176 yX10_read, Cond.instanceMethod yX10_read, Cond.selects RX10 yX10_read yX10_read, Cond.code yX10_read cX10_read 9 (some .int), Cond.methodLink RX10 381 yX7_faultAs, Cond.instanceMethod yX7_faultAs, Cond.selects RX7 yX7_faultAs yX7_faultAs, Cond.code yX7_faultAs cX7_faultAs 2 (some .int), Cond.methodLink RX10 384 yX7_wholeMarriages]
def wsL_law_r51 : List Cond := [Cond.instanceMethod yX7_wholeMarriages, Cond.selects RX7 yX7_wholeMarriages yX7_wholeMarriages, Cond.code yX7_wholeMarriages cX7_wholeMarriages 3 (some .int), Cond.methodLink RX7 26 Lib.Math.min.name, Cond.methodLink RX10 387 yX10_refusalOf, Cond.instanceMethod yX10_refusalOf, Cond.selects RX10 yX10_refusalOf yX10_refusalOf, Cond.code yX10_refusalOf cX10_refusalOf 6 (some .int), Cond.fieldLink RX10 441 "CrossOrName$Sheet" "cells" "[I", Cond.methodLink RX10 391 yX10_appendFrom, Cond.instanceMethod yX10_appendFrom, Cond.selects RX10 yX10_appendFrom yX10_appendFrom, Cond.code yX10_appendFrom cX10_appendFrom 6 none, Cond.methodLink RL 179 yX11_read, Cond.instanceMethod yX11_read, Cond.selects RX11 yX11_read yX11_read, Cond.code yX11_read cX11_read 9 (some .int), Cond.constantLong RX11 328 (12), Cond.fieldLink RX11 330 "CrossOrNameModel" "torn" "I", Cond.methodLink RL 180 yX10_torn, Cond.instanceMethod yX10_torn, Cond.selects RX10 yX10_torn yX10_torn, Cond.code yX10_torn cX10_torn 1 (some .int), Cond.methodLink RL 183 yX11_torn]
def wsL_law_r52 : List Cond := [Cond.instanceMethod yX11_torn, Cond.selects RX11 yX11_torn yX11_torn, Cond.code yX11_torn cX11_torn 1 (some .int), Cond.methodLink RL 184 yX10_count, Cond.instanceMethod yX10_count, Cond.selects RX10 yX10_count yX10_count, Cond.code yX10_count cX10_count 2 (some .int), Cond.methodLink RX10 395 yX4_towns, Cond.instanceMethod yX4_towns, Cond.selects RX4 yX4_towns yX4_towns, Cond.code yX4_towns cX4_towns 3 (some .int), Cond.methodLink RL 187 yX11_count, Cond.instanceMethod yX11_count, Cond.selects RX11 yX11_count yX11_count, Cond.code yX11_count cX11_count 4 (some .int)]
def wsL_law : List Cond := (wsL_law_r1 ++ (wsL_law_r2 ++ (wsL_law_r3 ++ (wsL_law_r4 ++ (wsL_law_r5 ++ (wsL_law_r6 ++ (wsL_law_r7 ++ (wsL_law_r8 ++ (wsL_law_r9 ++ (wsL_law_r10 ++ (wsL_law_r11 ++ (wsL_law_r12 ++ (wsL_law_r13 ++ (wsL_law_r14 ++ (wsL_law_r15 ++ (wsL_law_r16 ++ (wsL_law_r17 ++ (wsL_law_r18 ++ (wsL_law_r19 ++ (wsL_law_r20 ++ (wsL_law_r21 ++ (wsL_law_r22 ++ (wsL_law_r23 ++ (wsL_law_r24 ++ (wsL_law_r25 ++ (wsL_law_r26 ++ (wsL_law_r27 ++ (wsL_law_r28 ++ (wsL_law_r29 ++ (wsL_law_r30 ++ (wsL_law_r31 ++ (wsL_law_r32 ++ (wsL_law_r33 ++ (wsL_law_r34 ++ (wsL_law_r35 ++ (wsL_law_r36 ++ (wsL_law_r37 ++ (wsL_law_r38 ++ (wsL_law_r39 ++ (wsL_law_r40 ++ (wsL_law_r41 ++ (wsL_law_r42 ++ (wsL_law_r43 ++ (wsL_law_r44 ++ (wsL_law_r45 ++ (wsL_law_r46 ++ (wsL_law_r47 ++ (wsL_law_r48 ++ (wsL_law_r49 ++ (wsL_law_r50 ++ (wsL_law_r51 ++ wsL_law_r52))))))))))))))))))))))))))))))))))))))))))))))))))) ++ wsX100 ++ wsX110 ++ wsX90 ++ wsX50 ++ wsX40 ++ wsX00 ++ wsX30 ++ wsX10 ++ wsX20 ++ wsX70 ++ wsX80 ++ wsX60 ++ ([] : List Cond)
set_option maxRecDepth 20000 in
theorem wsL_law_in : ∀ w ∈ wsL_law, w ∈ lw_tbl := fun w h => (goodIn_p wsL_law [112, 115, 120, 137, 173, 180, 239, 262, 288, 293, 297, 320, 348, 366, 385, 1070, 449, 453, 1182, 457, 460, 1186, 1189, 464, 468, 473, 477, 481, 485, 489, 494, 498, 502, 508, 512, 515, 518, 523, 526, 529, 532, 536, 546, 550, 556, 563, 568, 577, 574, 585, 589, 593, 1193, 1197, 1201, 1209, 1213, 1217, 1222, 1226, 1230, 1234, 1238, 1242, 1246, 598, 1250, 602, 1254, 606, 610, 614, 1259, 1263, 1268, 1272, 1276, 618, 622, 626, 630, 634, 638, 642, 645, 652, 656, 660, 665, 670, 1280, 1284, 1289, 1293, 1296, 674, 678, 682, 686, 1300, 1304, 1310, 690, 694, 698, 701, 1314, 1318, 1321, 705, 1329, 709, 1334, 713, 1338, 1342, 1346, 1350, 1354, 717, 1358, 721, 1362, 726, 730, 1366, 737, 740, 744, 749, 753, 756, 761, 765, 1370, 1373, 1378, 1382, 1386, 1390, 1394, 1398, 769, 1402, 773, 777, 781, 784, 787, 791, 1408, 1411, 1414, 795, 799, 803, 807, 811, 815, 1418, 1422, 819, 823, 1426, 1430, 827, 1434, 832, 835, 839, 843, 1438, 1441, 1446, 848, 1450, 852, 856, 860, 1454, 864, 869, 874, 880, 1458, 1462, 1466, 1472, 1476, 1480, 885, 889, 1484, 893, 896, 900, 904, 1488, 908, 1493, 912, 1497, 916, 920, 923, 926, 930, 935, 1501, 939, 944, 1505, 949, 953, 959, 963, 968, 1511, 1515, 1519, 1523, 973, 977, 1527, 981, 985, 989, 1531, 993, 997, 1001, 1535, 1005, 1009, 1539, 1013, 1016, 1019, 1023, 1543, 1027, 1031, 1547, 1035, 1039, 1043, 1049, 1053, 1551, 1057, 1556, 1061, 1065, 1560] (by decide +kernel) (by decide +kernel) w h).1
theorem inlX0 : ∀ w ∈ wsX00, w ∈ wsL_law := fun _ h => List.mem_append_left _ (List.mem_append_left _ (List.mem_append_left _ (List.mem_append_left _ (List.mem_append_left _ (List.mem_append_left _ (List.mem_append_left _ (List.mem_append_right _ h)))))))
theorem inX0 : ∀ w ∈ wsX00, w ∈ lw_tbl := fun w h => wsL_law_in w (inlX0 w h)
theorem inlX1 : ∀ w ∈ wsX10, w ∈ wsL_law := fun _ h => List.mem_append_left _ (List.mem_append_left _ (List.mem_append_left _ (List.mem_append_left _ (List.mem_append_left _ (List.mem_append_right _ h)))))
theorem inX1 : ∀ w ∈ wsX10, w ∈ lw_tbl := fun w h => wsL_law_in w (inlX1 w h)
theorem inlX2 : ∀ w ∈ wsX20, w ∈ wsL_law := fun _ h => List.mem_append_left _ (List.mem_append_left _ (List.mem_append_left _ (List.mem_append_left _ (List.mem_append_right _ h))))
theorem inX2 : ∀ w ∈ wsX20, w ∈ lw_tbl := fun w h => wsL_law_in w (inlX2 w h)
theorem inlX3 : ∀ w ∈ wsX30, w ∈ wsL_law := fun _ h => List.mem_append_left _ (List.mem_append_left _ (List.mem_append_left _ (List.mem_append_left _ (List.mem_append_left _ (List.mem_append_left _ (List.mem_append_right _ h))))))
theorem inX3 : ∀ w ∈ wsX30, w ∈ lw_tbl := fun w h => wsL_law_in w (inlX3 w h)
theorem inlX4 : ∀ w ∈ wsX40, w ∈ wsL_law := fun _ h => List.mem_append_left _ (List.mem_append_left _ (List.mem_append_left _ (List.mem_append_left _ (List.mem_append_left _ (List.mem_append_left _ (List.mem_append_left _ (List.mem_append_left _ (List.mem_append_right _ h))))))))
theorem inX4 : ∀ w ∈ wsX40, w ∈ lw_tbl := fun w h => wsL_law_in w (inlX4 w h)
theorem inlX5 : ∀ w ∈ wsX50, w ∈ wsL_law := fun _ h => List.mem_append_left _ (List.mem_append_left _ (List.mem_append_left _ (List.mem_append_left _ (List.mem_append_left _ (List.mem_append_left _ (List.mem_append_left _ (List.mem_append_left _ (List.mem_append_left _ (List.mem_append_right _ h)))))))))
theorem inX5 : ∀ w ∈ wsX50, w ∈ lw_tbl := fun w h => wsL_law_in w (inlX5 w h)
theorem inlX6 : ∀ w ∈ wsX60, w ∈ wsL_law := fun _ h => List.mem_append_left _ (List.mem_append_right _ h)
theorem inX6 : ∀ w ∈ wsX60, w ∈ lw_tbl := fun w h => wsL_law_in w (inlX6 w h)
theorem inlX7 : ∀ w ∈ wsX70, w ∈ wsL_law := fun _ h => List.mem_append_left _ (List.mem_append_left _ (List.mem_append_left _ (List.mem_append_right _ h)))
theorem inX7 : ∀ w ∈ wsX70, w ∈ lw_tbl := fun w h => wsL_law_in w (inlX7 w h)
theorem inlX8 : ∀ w ∈ wsX80, w ∈ wsL_law := fun _ h => List.mem_append_left _ (List.mem_append_left _ (List.mem_append_right _ h))
theorem inX8 : ∀ w ∈ wsX80, w ∈ lw_tbl := fun w h => wsL_law_in w (inlX8 w h)
theorem inlX9 : ∀ w ∈ wsX90, w ∈ wsL_law := fun _ h => List.mem_append_left _ (List.mem_append_left _ (List.mem_append_left _ (List.mem_append_left _ (List.mem_append_left _ (List.mem_append_left _ (List.mem_append_left _ (List.mem_append_left _ (List.mem_append_left _ (List.mem_append_left _ (List.mem_append_right _ h))))))))))
theorem inX9 : ∀ w ∈ wsX90, w ∈ lw_tbl := fun w h => wsL_law_in w (inlX9 w h)
theorem inlX10 : ∀ w ∈ wsX100, w ∈ wsL_law := fun _ h => List.mem_append_left _ (List.mem_append_left _ (List.mem_append_left _ (List.mem_append_left _ (List.mem_append_left _ (List.mem_append_left _ (List.mem_append_left _ (List.mem_append_left _ (List.mem_append_left _ (List.mem_append_left _ (List.mem_append_left _ (List.mem_append_left _ (List.mem_append_right _ h))))))))))))
theorem inX10 : ∀ w ∈ wsX100, w ∈ lw_tbl := fun w h => wsL_law_in w (inlX10 w h)
theorem inlX11 : ∀ w ∈ wsX110, w ∈ wsL_law := fun _ h => List.mem_append_left _ (List.mem_append_left _ (List.mem_append_left _ (List.mem_append_left _ (List.mem_append_left _ (List.mem_append_left _ (List.mem_append_left _ (List.mem_append_left _ (List.mem_append_left _ (List.mem_append_left _ (List.mem_append_left _ (List.mem_append_right _ h)))))))))))
theorem inX11 : ∀ w ∈ wsX110, w ∈ lw_tbl := fun w h => wsL_law_in w (inlX11 w h)
theorem inJ6 : ∀ w ∈ wsJ60, w ∈ lw_tbl := by decide +kernel
theorem inJ9 : ∀ w ∈ wsJ90, w ∈ lw_tbl := by decide +kernel
theorem inJ0 : ∀ w ∈ wsJ00, w ∈ lw_tbl := by decide +kernel
theorem inJ1 : ∀ w ∈ wsJ10, w ∈ lw_tbl := by decide +kernel
theorem inJ2 : ∀ w ∈ wsJ20, w ∈ lw_tbl := by decide +kernel
theorem inJ10 : ∀ w ∈ wsJ100, w ∈ lw_tbl := by decide +kernel
theorem inJ3 : ∀ w ∈ wsJ30, w ∈ lw_tbl := by decide +kernel
abbrev vwCl : List vw_C := [(RX0, TX0, 3), (RX1, TX1, 5), (RX2, TX2, 4), (RX3, TX3, 5), (RX4, TX4, 10), (RX5, TX5, 9), (RX6, TX6, 2), (RX7, TX7, 3), (RX8, TX8, 3), (RX9, TX9, 2), (RX10, TX10, 16), (RX11, TX11, 35)]
