/-! the law: both sides' states -/
def IC (L : Ld) (B : Bk) (ch : Cs) (T : Tp) (F : Int) (I : Nat → Im) (S : Nat → Sht) (N : Int) (m : Mem) : Prop := ∃ o d, CS o d L B ch m ∧ Ex T F I S N m
def IR (L : Ld) (B : Bk) (ch : Cs) (T : Tp) (F : Int) (I : Nat → Im) (S : Nat → Sht) (N : Int) (m : Mem) : Prop := RS L B ch m ∧ RX T F I S N m
def QC (L : Ld) (B : Bk) (ch : Cs) (T : Tp) (F : Int) (I : Nat → Im) (S : Nat → Sht) (N : Int) (m : Mem) (z : Int) : Option AV → Shp → Mem → Prop := QI SH (fun z' m' => z' = z ∧ Fh m m' ∧ IC L B ch T F I S N m')
def QCL (L : Ld) (B : Bk) (ch : Cs) (T : Tp) (F : Int) (I : Nat → Im) (S : Nat → Sht) (N : Int) (m : Mem) (z : Int) : Option AV → Shp → Mem → Prop := QL SH (fun z' m' => z' = z ∧ Fh m m' ∧ IC L B ch T F I S N m')
def QD (L : Ld) (B : Bk) (ch : Cs) (T : Tp) (F : Int) (I : Nat → Im) (S : Nat → Sht) (N : Int) (m : Mem) (z : Int) : Option AV → Shp → Mem → Prop := QI SH (fun z' m' => z' = z ∧ Fl m m' ∧ IR L B ch T F I S N m')
def QDL (L : Ld) (B : Bk) (ch : Cs) (T : Tp) (F : Int) (I : Nat → Im) (S : Nat → Sht) (N : Int) (m : Mem) (z : Int) : Option AV → Shp → Mem → Prop := QL SH (fun z' m' => z' = z ∧ Fl m m' ∧ IR L B ch T F I S N m')
theorem mkP_96 {o d a k : Nat} (h : 96 ≤ a) : mkP (o, d, none, none, none, none) a k = mkP (0, 0, none, none, none, none) a k := by
  unfold mkP
  simp only [show ¬ a < 56 by omega, if_false]
section
variable {Γ : GX} {m m' : Mem} {B B' : Bk} {L L' : Ld} {ch ch' : Cs} {o d : Nat} {T T' : Tp} {F F' N N' : Int} {I I' : Nat → Im} {S S' : Nat → Sht} {z : Int} {r : Option AV} {Sx : Shp}
theorem PO.rp (h : PO o d m) : RP m := fun a k r q => by
  unfold mkQ at q
  by_cases h96 : a < 96
  · rw [if_pos h96] at q; cases q
  · rw [if_neg h96] at q
    exact h.2 a k r (by rw [mkP_96 (by omega)]; exact q)
theorem QS.c (h : QS o d L B ch T F I S N m z r Sx m') : QC L B ch T F I S N m z r Sx m' := by
  obtain ⟨z', h1, h2, h3, h4, h5, h6⟩ := h
  exact ⟨z', h1, h2, h3, h4, o, d, h5, h6⟩
theorem QA.c (hEx : Ex T F I S N m) (h : QA o d L B ch m z r Sx m') : QC L B ch T F I S N m z r Sx m' := QS.c (QA.s hEx h)
theorem QB.c (hEx : Ex T F I S N m) (h : QB o d L B ch m z r Sx m') : QCL L B ch T F I S N m z r Sx m' := by
  obtain ⟨z', h1, h2, h3, h4, h5⟩ := h
  exact ⟨z', h1, h2, h3, h4.h, o, d, h5, hEx.fs h4⟩
theorem Qi.c (hCS : CS o d L B ch m) (hEx : Ex T F I S N m) (h : Qi SH m z r Sx m') : QC L B ch T F I S N m z r Sx m' := by
  obtain ⟨h1, h2, h3⟩ := h
  subst h3
  exact ⟨z, h1, h2, rfl, fun _ _ _ => rfl, o, d, hCS, hEx⟩
theorem QR.rd (h : QR L B ch T F I S N m z r Sx m') : QD L B ch T F I S N m z r Sx m' := by
  obtain ⟨z', h1, h2, h3, h4, h5, h6⟩ := h
  exact ⟨z', h1, h2, h3, h4, h5, h6⟩
theorem QM.rd (hX : RX T F I S N m) (h : QM L B ch m z r Sx m') : QD L B ch T F I S N m z r Sx m' := QR.rd (QM.r hX h)
theorem QN.rd (hX : RX T F I S N m) (h : QN L B ch m z r Sx m') : QDL L B ch T F I S N m z r Sx m' := by
  obtain ⟨z', h1, h2, h3, h4, h5⟩ := h
  exact ⟨z', h1, h2, h3, h4.l, h5, hX.fm h4⟩
theorem RB.h {f : Nat} (h : RB f m B) (e : ∀ k, m'.1 107 k = m.1 107 k) : RB f m' B := ⟨by rw [e]; exact h.1, fun k hk w hw => by rw [e]; exact h.2.1 k hk w hw, fun k hk w hw => by rw [e]; exact h.2.2 k hk w hw⟩
/-- the class's call leaves the reference -/
theorem IR.h (h : IR L B ch T F I S N m) (hf : Fh m m') (hc : IC L' B' ch' T' F' I' S' N' m') : IR L B ch T F I S N m' := by
  obtain ⟨⟨h1, h2, h3, h4, h5, h6, h7⟩, hX⟩ := h
  obtain ⟨o, d, hCS, -⟩ := hc
  refine ⟨⟨hCS.1.rp, h2.eq (fun a k q1 q2 => hf a k (by omega)), h3, h4.h (fun k => hf 107 k (by omega)), h5, ?_, h7⟩, hX.eq ⟨hf 96 1 (by omega), hf 96 2 (by omega), hf 96 34 (by omega)⟩ (fun a k q1 q2 => hf a k (by omega)) (fun k q => hf 107 k (by omega))⟩
  rcases h6 with ⟨a, b⟩ | ⟨a, b⟩
  · exact Or.inl ⟨by rw [hf 96 20 (by omega)]; exact a, fun c hc j hj => by rw [hf 107 _ (by omega)]; exact b c hc j hj⟩
  · exact Or.inr ⟨by rw [hf 96 20 (by omega)]; exact a, b⟩
/-- the reference's call leaves the class -/
theorem IC.l (h : IC L B ch T F I S N m) (hf : Fl m m') : IC L B ch T F I S N m' := by
  obtain ⟨o, d, hCS, hEx⟩ := h
  have hod := hCS.1.1
  exact ⟨o, d, hCS.cell (hCS.1.eq hf.2) (fun a k q => hf.1 a k (by omega)), hEx.eq (fun a k q => hf.1 a k (by omega))⟩
end
section
variable {Γ : GX} {M : MD} {rm : Room} {mc ms : Nat} {Q : Option AV → Shp → Mem → Prop} {k n pc : Nat} {loc : List (Option AV)} {st : List AV} {S : Shp} {m : Mem}
def sc (Γ : GX) (j : Nat) : Int := (gI Γ j).toInt
theorem sc_rg (Γ : GX) (j : Nat) : rg (sc Γ j) := ⟨by have := Int32.le_toInt (gI Γ j); unfold sc; omega, by have := Int32.toInt_lt (gI Γ j); unfold sc; omega⟩
theorem fd_rg (Γ : GX) (a b : Nat) : rgL (sc Γ a * 4294967296 + sc Γ b % 4294967296) := by
  have h1 := sc_rg Γ a
  have h2 := h1.1
  have h3 := h1.2
  exact ⟨by omega, by omega⟩
theorem tr_scr (Γ : GX) : tr Γ (vr 2000000) = .ref (gX Γ) := by
  show rv Γ (some 2000000) = _
  unfold rv
  show Value.ref (adr Γ 2000000) = _
  unfold adr
  rw [if_neg (by decide), if_neg (by decide)]
theorem R_sld {a : Int} (j q : Nat) (hq : pc + 1 = q) (hd : decode M.2.1 pc = .ok (.iaload, 1)) (hj : a = (j : Int)) (hb : j < gN Γ) (hz : gN Γ ≤ 3584)
    (kk : R Γ M rm mc ms Q k n q loc (vi (sc Γ j) :: st) S m) : R Γ M rm mc ms Q k n pc loc (vi a :: vr 2000000 :: st) S m := by
  subst hq
  subst hj
  intro p e s mi args below meth c H locs ls hc hZ hS hH hl
  obtain ⟨-, -, -, -, -, -, -, h11, h12, h13, -⟩ := hc.2.2.2.2.2.2.2.2
  show W p Γ.1 e rm s mi args below meth c H locs k n _ (F0 mi pc ls (.int (iz (j : Int)) :: tr Γ (vr 2000000) :: st.map (tr Γ)))
  rw [tr_scr]
  refine va_sld hc.1 hc.2.1 h11 h13 h12 hS (iz_in (n := gN Γ) (by omega) (by omega) (by omega)) hd ?_
  rw [iz_clamp (rg_n (by omega)), Int.toNat_natCast]
  have h9 := kk p e s mi args below meth c H locs ls hc hZ hS hH hl
  have e9 : tr Γ (vi (sc Γ j)) = .int (gI Γ j) := by show Value.int (iz (gI Γ j).toInt) = _; rw [iz_of]
  rw [List.map_cons, e9] at h9
  exact h9
theorem R_slen (q : Nat) (hq : pc + 1 = q) (hd : decode M.2.1 pc = .ok (.arraylength, 1)) (hz : gN Γ ≤ 3584)
    (kk : R Γ M rm mc ms Q k n q loc (vi (gN Γ : Int) :: st) S m) : R Γ M rm mc ms Q k n pc loc (vr 2000000 :: st) S m := by
  subst hq
  intro p e s mi args below meth c H locs ls hc hZ hS hH hl
  obtain ⟨-, -, -, -, -, -, -, h11, h12, h13, -⟩ := hc.2.2.2.2.2.2.2.2
  show W p Γ.1 e rm s mi args below meth c H locs k n _ (F0 mi pc ls (tr Γ (vr 2000000) :: st.map (tr Γ)))
  rw [tr_scr]
  refine va_slen hc.1 hc.2.1 h11 h13 h12 hS hd ?_
  have h9 := kk p e s mi args below meth c H locs ls hc hZ hS hH hl
  have e9 : tr Γ (vi (gN Γ : Int)) = .int (Int32.ofNat (gN Γ)) := by show Value.int (iz (gN Γ : Int)) = _; rw [iz_nat]; rfl
  rw [List.map_cons, e9] at h9
  exact h9
theorem R_icmp_same {a b off : Int} (t : Nat) (ht : (pc : Int) + off = (t : Int)) (hd : decode M.2.1 pc = .ok (.if_icmp .eq off, 3)) (e : a = b) (kt : R Γ M rm mc ms Q k n t loc st S m) : R Γ M rm mc ms Q k n pc loc (vi b :: vi a :: st) S m := by
  subst e
  intro p e s mi args below meth c H locs ls hc hZ hS hH hl
  exact lv_icmp_eq hc.1 hc.2.1 hd ht (fun h => kt p e s mi args below meth c H locs ls hc hZ hS hH hl) (fun h => absurd rfl h)
theorem R_lif_same {a b off : Int} (q1 t : Nat) (hq1 : pc + 1 = q1) (ht : (q1 : Int) + off = (t : Int)) (hd1 : decode M.2.1 pc = .ok (.lcmp, 1)) (hd : decode M.2.1 q1 = .ok (.ifCond .eq off, 3)) (e : a = b) (kt : R Γ M rm mc ms Q k n t loc st S m) : R Γ M rm mc ms Q k n pc loc (vl b :: vl a :: st) S m := by
  subst e
  subst hq1
  intro p e s mi args below meth c H locs ls hc hZ hS hH hl
  refine W.lcmp (x := lz a) (y := lz a) hc.1 hc.2.1 hd1 ?_
  exact lv_if_eq hc.1 hc.2.1 hd ht (fun h => kt p e s mi args below meth c H locs ls hc hZ hS hH hl) (fun h => absurd (by unfold lg_cmp; simp) h)
end
