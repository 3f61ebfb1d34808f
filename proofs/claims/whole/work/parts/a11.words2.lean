/-! what holds at the law's entry: the kit's words for this state -/
theorem inst_at : ∀ {t : Nat}, t < 12 → Cond.instantiable (cR t) (nF t) ∈ TW
  | 0, _ => inst_X0 | 1, _ => inst_X1 | 2, _ => inst_X2 | 3, _ => inst_X3 | 4, _ => inst_X4 | 5, _ => inst_X5 | 6, _ => inst_X6 | 7, _ => inst_X7 | 8, _ => inst_X8 | 9, _ => inst_X9 | 10, _ => inst_X10 | 11, _ => inst_X11
  | _ + 12, h => absurd h (by omega)
theorem srJS : ∀ i, i < 12 → Cond.stringRef RX5 (idxJS.getD i 0) (txtJS.getD i "") ∈ lw_tbl
  | 0, _ => sr_parish | 1, _ => sr_clerk | 2, _ => sr_tried | 3, _ => sr_learn | 4, _ => sr_ages | 5, _ => sr_never | 6, _ => sr_picture | 7, _ => sr_town | 8, _ => sr_mill | 9, _ => sr_school | 10, _ => sr_cross | 11, _ => sr_name
  | _ + 12, h => absurd h (by omega)
/-- the Statement's words, flat -/
def lwF : List Cond := flatC (Jvm.Cond.and given_1 narrow_1)
def tmJ (i : Nat) : Term := .string RX5 (idxJS.getD i 0)
theorem exJ : ∀ i, i < 12 → Cond.exactly (tmJ i) "java/lang/String" ∈ lwF
  | 0, _ => by decide +kernel
  | 1, _ => by decide +kernel
  | 2, _ => by decide +kernel
  | 3, _ => by decide +kernel
  | 4, _ => by decide +kernel
  | 5, _ => by decide +kernel
  | 6, _ => by decide +kernel
  | 7, _ => by decide +kernel
  | 8, _ => by decide +kernel
  | 9, _ => by decide +kernel
  | 10, _ => by decide +kernel
  | 11, _ => by decide +kernel
  | _ + 12, h => absurd h (by omega)
theorem coJ : ∀ i, i < 12 → Cond.eq (.field (tmJ i) "java/lang/String" "coder" "B") (.int 0) ∈ lwF
  | 0, _ => by decide +kernel
  | 1, _ => by decide +kernel
  | 2, _ => by decide +kernel
  | 3, _ => by decide +kernel
  | 4, _ => by decide +kernel
  | 5, _ => by decide +kernel
  | 6, _ => by decide +kernel
  | 7, _ => by decide +kernel
  | 8, _ => by decide +kernel
  | 9, _ => by decide +kernel
  | 10, _ => by decide +kernel
  | 11, _ => by decide +kernel
  | _ + 12, h => absurd h (by omega)
theorem arJ : ∀ i, i < 12 → Cond.arrayOf (.field (tmJ i) "java/lang/String" "value" "[B") .byte ∈ lwF
  | 0, _ => by decide +kernel
  | 1, _ => by decide +kernel
  | 2, _ => by decide +kernel
  | 3, _ => by decide +kernel
  | 4, _ => by decide +kernel
  | 5, _ => by decide +kernel
  | 6, _ => by decide +kernel
  | 7, _ => by decide +kernel
  | 8, _ => by decide +kernel
  | 9, _ => by decide +kernel
  | 10, _ => by decide +kernel
  | 11, _ => by decide +kernel
  | _ + 12, h => absurd h (by omega)
theorem leJ : ∀ i, i < 12 → Cond.eq (.length (.field (tmJ i) "java/lang/String" "value" "[B")) (.int (Int32.ofNat (lenJS.getD i 0))) ∈ lwF
  | 0, _ => by decide +kernel
  | 1, _ => by decide +kernel
  | 2, _ => by decide +kernel
  | 3, _ => by decide +kernel
  | 4, _ => by decide +kernel
  | 5, _ => by decide +kernel
  | 6, _ => by decide +kernel
  | 7, _ => by decide +kernel
  | 8, _ => by decide +kernel
  | 9, _ => by decide +kernel
  | 10, _ => by decide +kernel
  | 11, _ => by decide +kernel
  | _ + 12, h => absurd h (by omega)
theorem elJ0 : ∀ j, j < 6 → Cond.eq (.elem (.field (tmJ 0) "java/lang/String" "value" "[B") (.int (Int32.ofNat j))) (.int ((bytJS.getD 0 []).getD j 0)) ∈ lwF
  | 0, _ => by decide +kernel
  | 1, _ => by decide +kernel
  | 2, _ => by decide +kernel
  | 3, _ => by decide +kernel
  | 4, _ => by decide +kernel
  | 5, _ => by decide +kernel
  | _ + 6, h => absurd h (by omega)
theorem elJ1 : ∀ j, j < 5 → Cond.eq (.elem (.field (tmJ 1) "java/lang/String" "value" "[B") (.int (Int32.ofNat j))) (.int ((bytJS.getD 1 []).getD j 0)) ∈ lwF
  | 0, _ => by decide +kernel
  | 1, _ => by decide +kernel
  | 2, _ => by decide +kernel
  | 3, _ => by decide +kernel
  | 4, _ => by decide +kernel
  | _ + 5, h => absurd h (by omega)
theorem elJ2 : ∀ j, j < 5 → Cond.eq (.elem (.field (tmJ 2) "java/lang/String" "value" "[B") (.int (Int32.ofNat j))) (.int ((bytJS.getD 2 []).getD j 0)) ∈ lwF
  | 0, _ => by decide +kernel
  | 1, _ => by decide +kernel
  | 2, _ => by decide +kernel
  | 3, _ => by decide +kernel
  | 4, _ => by decide +kernel
  | _ + 5, h => absurd h (by omega)
theorem elJ3 : ∀ j, j < 5 → Cond.eq (.elem (.field (tmJ 3) "java/lang/String" "value" "[B") (.int (Int32.ofNat j))) (.int ((bytJS.getD 3 []).getD j 0)) ∈ lwF
  | 0, _ => by decide +kernel
  | 1, _ => by decide +kernel
  | 2, _ => by decide +kernel
  | 3, _ => by decide +kernel
  | 4, _ => by decide +kernel
  | _ + 5, h => absurd h (by omega)
theorem elJ4 : ∀ j, j < 4 → Cond.eq (.elem (.field (tmJ 4) "java/lang/String" "value" "[B") (.int (Int32.ofNat j))) (.int ((bytJS.getD 4 []).getD j 0)) ∈ lwF
  | 0, _ => by decide +kernel
  | 1, _ => by decide +kernel
  | 2, _ => by decide +kernel
  | 3, _ => by decide +kernel
  | _ + 4, h => absurd h (by omega)
theorem elJ5 : ∀ j, j < 5 → Cond.eq (.elem (.field (tmJ 5) "java/lang/String" "value" "[B") (.int (Int32.ofNat j))) (.int ((bytJS.getD 5 []).getD j 0)) ∈ lwF
  | 0, _ => by decide +kernel
  | 1, _ => by decide +kernel
  | 2, _ => by decide +kernel
  | 3, _ => by decide +kernel
  | 4, _ => by decide +kernel
  | _ + 5, h => absurd h (by omega)
theorem elJ6 : ∀ j, j < 7 → Cond.eq (.elem (.field (tmJ 6) "java/lang/String" "value" "[B") (.int (Int32.ofNat j))) (.int ((bytJS.getD 6 []).getD j 0)) ∈ lwF
  | 0, _ => by decide +kernel
  | 1, _ => by decide +kernel
  | 2, _ => by decide +kernel
  | 3, _ => by decide +kernel
  | 4, _ => by decide +kernel
  | 5, _ => by decide +kernel
  | 6, _ => by decide +kernel
  | _ + 7, h => absurd h (by omega)
theorem elJ7 : ∀ j, j < 4 → Cond.eq (.elem (.field (tmJ 7) "java/lang/String" "value" "[B") (.int (Int32.ofNat j))) (.int ((bytJS.getD 7 []).getD j 0)) ∈ lwF
  | 0, _ => by decide +kernel
  | 1, _ => by decide +kernel
  | 2, _ => by decide +kernel
  | 3, _ => by decide +kernel
  | _ + 4, h => absurd h (by omega)
theorem elJ8 : ∀ j, j < 4 → Cond.eq (.elem (.field (tmJ 8) "java/lang/String" "value" "[B") (.int (Int32.ofNat j))) (.int ((bytJS.getD 8 []).getD j 0)) ∈ lwF
  | 0, _ => by decide +kernel
  | 1, _ => by decide +kernel
  | 2, _ => by decide +kernel
  | 3, _ => by decide +kernel
  | _ + 4, h => absurd h (by omega)
theorem elJ9 : ∀ j, j < 6 → Cond.eq (.elem (.field (tmJ 9) "java/lang/String" "value" "[B") (.int (Int32.ofNat j))) (.int ((bytJS.getD 9 []).getD j 0)) ∈ lwF
  | 0, _ => by decide +kernel
  | 1, _ => by decide +kernel
  | 2, _ => by decide +kernel
  | 3, _ => by decide +kernel
  | 4, _ => by decide +kernel
  | 5, _ => by decide +kernel
  | _ + 6, h => absurd h (by omega)
theorem elJ10 : ∀ j, j < 5 → Cond.eq (.elem (.field (tmJ 10) "java/lang/String" "value" "[B") (.int (Int32.ofNat j))) (.int ((bytJS.getD 10 []).getD j 0)) ∈ lwF
  | 0, _ => by decide +kernel
  | 1, _ => by decide +kernel
  | 2, _ => by decide +kernel
  | 3, _ => by decide +kernel
  | 4, _ => by decide +kernel
  | _ + 5, h => absurd h (by omega)
theorem elJ11 : ∀ j, j < 4 → Cond.eq (.elem (.field (tmJ 11) "java/lang/String" "value" "[B") (.int (Int32.ofNat j))) (.int ((bytJS.getD 11 []).getD j 0)) ∈ lwF
  | 0, _ => by decide +kernel
  | 1, _ => by decide +kernel
  | 2, _ => by decide +kernel
  | 3, _ => by decide +kernel
  | _ + 4, h => absurd h (by omega)
theorem elJ : ∀ i, i < 12 → ∀ j, j < lenJS.getD i 0 → Cond.eq (.elem (.field (tmJ i) "java/lang/String" "value" "[B") (.int (Int32.ofNat j))) (.int ((bytJS.getD i []).getD j 0)) ∈ lwF
  | 0, _ => elJ0
  | 1, _ => elJ1
  | 2, _ => elJ2
  | 3, _ => elJ3
  | 4, _ => elJ4
  | 5, _ => elJ5
  | 6, _ => elJ6
  | 7, _ => elJ7
  | 8, _ => elJ8
  | 9, _ => elJ9
  | 10, _ => elJ10
  | 11, _ => elJ11
  | _ + 12, h => absurd h (by omega)
theorem neJ0 : ∀ j, j < 12 → 0 ≠ j → Cond.not (Cond.eq (tmJ 0) (tmJ j)) ∈ lwF ∨ Cond.not (Cond.eq (tmJ j) (tmJ 0)) ∈ lwF
  | 0, _, h => absurd rfl h
  | 1, _, h => by first | exact Or.inl (by decide +kernel) | exact Or.inr (by decide +kernel)
  | 2, _, h => by first | exact Or.inl (by decide +kernel) | exact Or.inr (by decide +kernel)
  | 3, _, h => by first | exact Or.inl (by decide +kernel) | exact Or.inr (by decide +kernel)
  | 4, _, h => by first | exact Or.inl (by decide +kernel) | exact Or.inr (by decide +kernel)
  | 5, _, h => by first | exact Or.inl (by decide +kernel) | exact Or.inr (by decide +kernel)
  | 6, _, h => by first | exact Or.inl (by decide +kernel) | exact Or.inr (by decide +kernel)
  | 7, _, h => by first | exact Or.inl (by decide +kernel) | exact Or.inr (by decide +kernel)
  | 8, _, h => by first | exact Or.inl (by decide +kernel) | exact Or.inr (by decide +kernel)
  | 9, _, h => by first | exact Or.inl (by decide +kernel) | exact Or.inr (by decide +kernel)
  | 10, _, h => by first | exact Or.inl (by decide +kernel) | exact Or.inr (by decide +kernel)
  | 11, _, h => by first | exact Or.inl (by decide +kernel) | exact Or.inr (by decide +kernel)
  | _ + 12, h, _ => absurd h (by omega)
theorem neJ1 : ∀ j, j < 12 → 1 ≠ j → Cond.not (Cond.eq (tmJ 1) (tmJ j)) ∈ lwF ∨ Cond.not (Cond.eq (tmJ j) (tmJ 1)) ∈ lwF
  | 0, _, h => by first | exact Or.inl (by decide +kernel) | exact Or.inr (by decide +kernel)
  | 1, _, h => absurd rfl h
  | 2, _, h => by first | exact Or.inl (by decide +kernel) | exact Or.inr (by decide +kernel)
  | 3, _, h => by first | exact Or.inl (by decide +kernel) | exact Or.inr (by decide +kernel)
  | 4, _, h => by first | exact Or.inl (by decide +kernel) | exact Or.inr (by decide +kernel)
  | 5, _, h => by first | exact Or.inl (by decide +kernel) | exact Or.inr (by decide +kernel)
  | 6, _, h => by first | exact Or.inl (by decide +kernel) | exact Or.inr (by decide +kernel)
  | 7, _, h => by first | exact Or.inl (by decide +kernel) | exact Or.inr (by decide +kernel)
  | 8, _, h => by first | exact Or.inl (by decide +kernel) | exact Or.inr (by decide +kernel)
  | 9, _, h => by first | exact Or.inl (by decide +kernel) | exact Or.inr (by decide +kernel)
  | 10, _, h => by first | exact Or.inl (by decide +kernel) | exact Or.inr (by decide +kernel)
  | 11, _, h => by first | exact Or.inl (by decide +kernel) | exact Or.inr (by decide +kernel)
  | _ + 12, h, _ => absurd h (by omega)
theorem neJ2 : ∀ j, j < 12 → 2 ≠ j → Cond.not (Cond.eq (tmJ 2) (tmJ j)) ∈ lwF ∨ Cond.not (Cond.eq (tmJ j) (tmJ 2)) ∈ lwF
  | 0, _, h => by first | exact Or.inl (by decide +kernel) | exact Or.inr (by decide +kernel)
  | 1, _, h => by first | exact Or.inl (by decide +kernel) | exact Or.inr (by decide +kernel)
  | 2, _, h => absurd rfl h
  | 3, _, h => by first | exact Or.inl (by decide +kernel) | exact Or.inr (by decide +kernel)
  | 4, _, h => by first | exact Or.inl (by decide +kernel) | exact Or.inr (by decide +kernel)
  | 5, _, h => by first | exact Or.inl (by decide +kernel) | exact Or.inr (by decide +kernel)
  | 6, _, h => by first | exact Or.inl (by decide +kernel) | exact Or.inr (by decide +kernel)
  | 7, _, h => by first | exact Or.inl (by decide +kernel) | exact Or.inr (by decide +kernel)
  | 8, _, h => by first | exact Or.inl (by decide +kernel) | exact Or.inr (by decide +kernel)
  | 9, _, h => by first | exact Or.inl (by decide +kernel) | exact Or.inr (by decide +kernel)
  | 10, _, h => by first | exact Or.inl (by decide +kernel) | exact Or.inr (by decide +kernel)
  | 11, _, h => by first | exact Or.inl (by decide +kernel) | exact Or.inr (by decide +kernel)
  | _ + 12, h, _ => absurd h (by omega)
theorem neJ3 : ∀ j, j < 12 → 3 ≠ j → Cond.not (Cond.eq (tmJ 3) (tmJ j)) ∈ lwF ∨ Cond.not (Cond.eq (tmJ j) (tmJ 3)) ∈ lwF
  | 0, _, h => by first | exact Or.inl (by decide +kernel) | exact Or.inr (by decide +kernel)
  | 1, _, h => by first | exact Or.inl (by decide +kernel) | exact Or.inr (by decide +kernel)
  | 2, _, h => by first | exact Or.inl (by decide +kernel) | exact Or.inr (by decide +kernel)
  | 3, _, h => absurd rfl h
  | 4, _, h => by first | exact Or.inl (by decide +kernel) | exact Or.inr (by decide +kernel)
  | 5, _, h => by first | exact Or.inl (by decide +kernel) | exact Or.inr (by decide +kernel)
  | 6, _, h => by first | exact Or.inl (by decide +kernel) | exact Or.inr (by decide +kernel)
  | 7, _, h => by first | exact Or.inl (by decide +kernel) | exact Or.inr (by decide +kernel)
  | 8, _, h => by first | exact Or.inl (by decide +kernel) | exact Or.inr (by decide +kernel)
  | 9, _, h => by first | exact Or.inl (by decide +kernel) | exact Or.inr (by decide +kernel)
  | 10, _, h => by first | exact Or.inl (by decide +kernel) | exact Or.inr (by decide +kernel)
  | 11, _, h => by first | exact Or.inl (by decide +kernel) | exact Or.inr (by decide +kernel)
  | _ + 12, h, _ => absurd h (by omega)
theorem neJ4 : ∀ j, j < 12 → 4 ≠ j → Cond.not (Cond.eq (tmJ 4) (tmJ j)) ∈ lwF ∨ Cond.not (Cond.eq (tmJ j) (tmJ 4)) ∈ lwF
  | 0, _, h => by first | exact Or.inl (by decide +kernel) | exact Or.inr (by decide +kernel)
  | 1, _, h => by first | exact Or.inl (by decide +kernel) | exact Or.inr (by decide +kernel)
  | 2, _, h => by first | exact Or.inl (by decide +kernel) | exact Or.inr (by decide +kernel)
  | 3, _, h => by first | exact Or.inl (by decide +kernel) | exact Or.inr (by decide +kernel)
  | 4, _, h => absurd rfl h
  | 5, _, h => by first | exact Or.inl (by decide +kernel) | exact Or.inr (by decide +kernel)
  | 6, _, h => by first | exact Or.inl (by decide +kernel) | exact Or.inr (by decide +kernel)
  | 7, _, h => by first | exact Or.inl (by decide +kernel) | exact Or.inr (by decide +kernel)
  | 8, _, h => by first | exact Or.inl (by decide +kernel) | exact Or.inr (by decide +kernel)
  | 9, _, h => by first | exact Or.inl (by decide +kernel) | exact Or.inr (by decide +kernel)
  | 10, _, h => by first | exact Or.inl (by decide +kernel) | exact Or.inr (by decide +kernel)
  | 11, _, h => by first | exact Or.inl (by decide +kernel) | exact Or.inr (by decide +kernel)
  | _ + 12, h, _ => absurd h (by omega)
theorem neJ5 : ∀ j, j < 12 → 5 ≠ j → Cond.not (Cond.eq (tmJ 5) (tmJ j)) ∈ lwF ∨ Cond.not (Cond.eq (tmJ j) (tmJ 5)) ∈ lwF
  | 0, _, h => by first | exact Or.inl (by decide +kernel) | exact Or.inr (by decide +kernel)
  | 1, _, h => by first | exact Or.inl (by decide +kernel) | exact Or.inr (by decide +kernel)
  | 2, _, h => by first | exact Or.inl (by decide +kernel) | exact Or.inr (by decide +kernel)
  | 3, _, h => by first | exact Or.inl (by decide +kernel) | exact Or.inr (by decide +kernel)
  | 4, _, h => by first | exact Or.inl (by decide +kernel) | exact Or.inr (by decide +kernel)
  | 5, _, h => absurd rfl h
  | 6, _, h => by first | exact Or.inl (by decide +kernel) | exact Or.inr (by decide +kernel)
  | 7, _, h => by first | exact Or.inl (by decide +kernel) | exact Or.inr (by decide +kernel)
  | 8, _, h => by first | exact Or.inl (by decide +kernel) | exact Or.inr (by decide +kernel)
  | 9, _, h => by first | exact Or.inl (by decide +kernel) | exact Or.inr (by decide +kernel)
  | 10, _, h => by first | exact Or.inl (by decide +kernel) | exact Or.inr (by decide +kernel)
  | 11, _, h => by first | exact Or.inl (by decide +kernel) | exact Or.inr (by decide +kernel)
  | _ + 12, h, _ => absurd h (by omega)
theorem neJ6 : ∀ j, j < 12 → 6 ≠ j → Cond.not (Cond.eq (tmJ 6) (tmJ j)) ∈ lwF ∨ Cond.not (Cond.eq (tmJ j) (tmJ 6)) ∈ lwF
  | 0, _, h => by first | exact Or.inl (by decide +kernel) | exact Or.inr (by decide +kernel)
  | 1, _, h => by first | exact Or.inl (by decide +kernel) | exact Or.inr (by decide +kernel)
  | 2, _, h => by first | exact Or.inl (by decide +kernel) | exact Or.inr (by decide +kernel)
  | 3, _, h => by first | exact Or.inl (by decide +kernel) | exact Or.inr (by decide +kernel)
  | 4, _, h => by first | exact Or.inl (by decide +kernel) | exact Or.inr (by decide +kernel)
  | 5, _, h => by first | exact Or.inl (by decide +kernel) | exact Or.inr (by decide +kernel)
  | 6, _, h => absurd rfl h
  | 7, _, h => by first | exact Or.inl (by decide +kernel) | exact Or.inr (by decide +kernel)
  | 8, _, h => by first | exact Or.inl (by decide +kernel) | exact Or.inr (by decide +kernel)
  | 9, _, h => by first | exact Or.inl (by decide +kernel) | exact Or.inr (by decide +kernel)
  | 10, _, h => by first | exact Or.inl (by decide +kernel) | exact Or.inr (by decide +kernel)
  | 11, _, h => by first | exact Or.inl (by decide +kernel) | exact Or.inr (by decide +kernel)
  | _ + 12, h, _ => absurd h (by omega)
theorem neJ7 : ∀ j, j < 12 → 7 ≠ j → Cond.not (Cond.eq (tmJ 7) (tmJ j)) ∈ lwF ∨ Cond.not (Cond.eq (tmJ j) (tmJ 7)) ∈ lwF
  | 0, _, h => by first | exact Or.inl (by decide +kernel) | exact Or.inr (by decide +kernel)
  | 1, _, h => by first | exact Or.inl (by decide +kernel) | exact Or.inr (by decide +kernel)
  | 2, _, h => by first | exact Or.inl (by decide +kernel) | exact Or.inr (by decide +kernel)
  | 3, _, h => by first | exact Or.inl (by decide +kernel) | exact Or.inr (by decide +kernel)
  | 4, _, h => by first | exact Or.inl (by decide +kernel) | exact Or.inr (by decide +kernel)
  | 5, _, h => by first | exact Or.inl (by decide +kernel) | exact Or.inr (by decide +kernel)
  | 6, _, h => by first | exact Or.inl (by decide +kernel) | exact Or.inr (by decide +kernel)
  | 7, _, h => absurd rfl h
  | 8, _, h => by first | exact Or.inl (by decide +kernel) | exact Or.inr (by decide +kernel)
  | 9, _, h => by first | exact Or.inl (by decide +kernel) | exact Or.inr (by decide +kernel)
  | 10, _, h => by first | exact Or.inl (by decide +kernel) | exact Or.inr (by decide +kernel)
  | 11, _, h => by first | exact Or.inl (by decide +kernel) | exact Or.inr (by decide +kernel)
  | _ + 12, h, _ => absurd h (by omega)
theorem neJ8 : ∀ j, j < 12 → 8 ≠ j → Cond.not (Cond.eq (tmJ 8) (tmJ j)) ∈ lwF ∨ Cond.not (Cond.eq (tmJ j) (tmJ 8)) ∈ lwF
  | 0, _, h => by first | exact Or.inl (by decide +kernel) | exact Or.inr (by decide +kernel)
  | 1, _, h => by first | exact Or.inl (by decide +kernel) | exact Or.inr (by decide +kernel)
  | 2, _, h => by first | exact Or.inl (by decide +kernel) | exact Or.inr (by decide +kernel)
  | 3, _, h => by first | exact Or.inl (by decide +kernel) | exact Or.inr (by decide +kernel)
  | 4, _, h => by first | exact Or.inl (by decide +kernel) | exact Or.inr (by decide +kernel)
  | 5, _, h => by first | exact Or.inl (by decide +kernel) | exact Or.inr (by decide +kernel)
  | 6, _, h => by first | exact Or.inl (by decide +kernel) | exact Or.inr (by decide +kernel)
  | 7, _, h => by first | exact Or.inl (by decide +kernel) | exact Or.inr (by decide +kernel)
  | 8, _, h => absurd rfl h
  | 9, _, h => by first | exact Or.inl (by decide +kernel) | exact Or.inr (by decide +kernel)
  | 10, _, h => by first | exact Or.inl (by decide +kernel) | exact Or.inr (by decide +kernel)
  | 11, _, h => by first | exact Or.inl (by decide +kernel) | exact Or.inr (by decide +kernel)
  | _ + 12, h, _ => absurd h (by omega)
theorem neJ9 : ∀ j, j < 12 → 9 ≠ j → Cond.not (Cond.eq (tmJ 9) (tmJ j)) ∈ lwF ∨ Cond.not (Cond.eq (tmJ j) (tmJ 9)) ∈ lwF
  | 0, _, h => by first | exact Or.inl (by decide +kernel) | exact Or.inr (by decide +kernel)
  | 1, _, h => by first | exact Or.inl (by decide +kernel) | exact Or.inr (by decide +kernel)
  | 2, _, h => by first | exact Or.inl (by decide +kernel) | exact Or.inr (by decide +kernel)
  | 3, _, h => by first | exact Or.inl (by decide +kernel) | exact Or.inr (by decide +kernel)
  | 4, _, h => by first | exact Or.inl (by decide +kernel) | exact Or.inr (by decide +kernel)
  | 5, _, h => by first | exact Or.inl (by decide +kernel) | exact Or.inr (by decide +kernel)
  | 6, _, h => by first | exact Or.inl (by decide +kernel) | exact Or.inr (by decide +kernel)
  | 7, _, h => by first | exact Or.inl (by decide +kernel) | exact Or.inr (by decide +kernel)
  | 8, _, h => by first | exact Or.inl (by decide +kernel) | exact Or.inr (by decide +kernel)
  | 9, _, h => absurd rfl h
  | 10, _, h => by first | exact Or.inl (by decide +kernel) | exact Or.inr (by decide +kernel)
  | 11, _, h => by first | exact Or.inl (by decide +kernel) | exact Or.inr (by decide +kernel)
  | _ + 12, h, _ => absurd h (by omega)
theorem neJ10 : ∀ j, j < 12 → 10 ≠ j → Cond.not (Cond.eq (tmJ 10) (tmJ j)) ∈ lwF ∨ Cond.not (Cond.eq (tmJ j) (tmJ 10)) ∈ lwF
  | 0, _, h => by first | exact Or.inl (by decide +kernel) | exact Or.inr (by decide +kernel)
  | 1, _, h => by first | exact Or.inl (by decide +kernel) | exact Or.inr (by decide +kernel)
  | 2, _, h => by first | exact Or.inl (by decide +kernel) | exact Or.inr (by decide +kernel)
  | 3, _, h => by first | exact Or.inl (by decide +kernel) | exact Or.inr (by decide +kernel)
  | 4, _, h => by first | exact Or.inl (by decide +kernel) | exact Or.inr (by decide +kernel)
  | 5, _, h => by first | exact Or.inl (by decide +kernel) | exact Or.inr (by decide +kernel)
  | 6, _, h => by first | exact Or.inl (by decide +kernel) | exact Or.inr (by decide +kernel)
  | 7, _, h => by first | exact Or.inl (by decide +kernel) | exact Or.inr (by decide +kernel)
  | 8, _, h => by first | exact Or.inl (by decide +kernel) | exact Or.inr (by decide +kernel)
  | 9, _, h => by first | exact Or.inl (by decide +kernel) | exact Or.inr (by decide +kernel)
  | 10, _, h => absurd rfl h
  | 11, _, h => by first | exact Or.inl (by decide +kernel) | exact Or.inr (by decide +kernel)
  | _ + 12, h, _ => absurd h (by omega)
theorem neJ11 : ∀ j, j < 12 → 11 ≠ j → Cond.not (Cond.eq (tmJ 11) (tmJ j)) ∈ lwF ∨ Cond.not (Cond.eq (tmJ j) (tmJ 11)) ∈ lwF
  | 0, _, h => by first | exact Or.inl (by decide +kernel) | exact Or.inr (by decide +kernel)
  | 1, _, h => by first | exact Or.inl (by decide +kernel) | exact Or.inr (by decide +kernel)
  | 2, _, h => by first | exact Or.inl (by decide +kernel) | exact Or.inr (by decide +kernel)
  | 3, _, h => by first | exact Or.inl (by decide +kernel) | exact Or.inr (by decide +kernel)
  | 4, _, h => by first | exact Or.inl (by decide +kernel) | exact Or.inr (by decide +kernel)
  | 5, _, h => by first | exact Or.inl (by decide +kernel) | exact Or.inr (by decide +kernel)
  | 6, _, h => by first | exact Or.inl (by decide +kernel) | exact Or.inr (by decide +kernel)
  | 7, _, h => by first | exact Or.inl (by decide +kernel) | exact Or.inr (by decide +kernel)
  | 8, _, h => by first | exact Or.inl (by decide +kernel) | exact Or.inr (by decide +kernel)
  | 9, _, h => by first | exact Or.inl (by decide +kernel) | exact Or.inr (by decide +kernel)
  | 10, _, h => by first | exact Or.inl (by decide +kernel) | exact Or.inr (by decide +kernel)
  | 11, _, h => absurd rfl h
  | _ + 12, h, _ => absurd h (by omega)
theorem neJ : ∀ i, i < 12 → ∀ j, j < 12 → i ≠ j → Cond.not (Cond.eq (tmJ i) (tmJ j)) ∈ lwF ∨ Cond.not (Cond.eq (tmJ j) (tmJ i)) ∈ lwF
  | 0, _ => neJ0
  | 1, _ => neJ1
  | 2, _ => neJ2
  | 3, _ => neJ3
  | 4, _ => neJ4
  | 5, _ => neJ5
  | 6, _ => neJ6
  | 7, _ => neJ7
  | 8, _ => neJ8
  | 9, _ => neJ9
  | 10, _ => neJ10
  | 11, _ => neJ11
  | _ + 12, h => absurd h (by omega)
theorem csJ : Cond.eq (.static "java/lang/String" "COMPACT_STRINGS" "Z") (.int 1) ∈ lwF := by decide +kernel
theorem sfJ : Cond.isRef (.static "jdk/internal/util/Preconditions" "SIOOBE_FORMATTER" "Ljava/util/function/BiFunction;") ∈ lwF := by decide +kernel
