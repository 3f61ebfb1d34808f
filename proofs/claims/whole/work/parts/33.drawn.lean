theorem tb_nat (x p : Nat) : tb (x : Int) (p : Int) = x.testBit p := by
  unfold tb
  rw [Int.toNat_natCast]
  have e : ((x : Int) / 2 ^ p % 2 = 1) ↔ (x / 2 ^ p % 2 = 1) := by
    have : ((x : Int) / 2 ^ p % 2) = ((x / 2 ^ p % 2 : Nat) : Int) := by push_cast; rfl
    rw [this]; omega
  rw [Nat.testBit_eq_decide_div_mod_eq]
  exact decide_eq_decide.mpr e
def aHM (mk : Nat → Int) (b : Int) (n : Nat) : Bool := allN (fun p => !tb b (p : Int) || decide (mk p ≠ 0)) n
def lgB (mk w : Nat → Int) (dr : Int) : Nat → Int
  | 0 => -1
  | p + 1 => if 0 < mk p ∧ ¬ tb dr (p : Int) = true ∧ (lgB mk w dr p < 0 ∨ w (lgB mk w dr p).toNat < w p) then (p : Int) else lgB mk w dr p
theorem lgB_rg (mk w : Nat → Int) (dr : Int) (n : Nat) : -1 ≤ lgB mk w dr n ∧ lgB mk w dr n < n := by
  induction n with
  | zero => simp [lgB]
  | succ g ih => unfold lgB; split <;> omega
def fwG (mk w : Nat → Int) (n : Nat) : Nat → Nat → Int → Int
  | 0, _, _ => 0
  | f + 1, dr, ms => if ms ≤ 0 then 0 else if lgB mk w (dr : Int) n < 0 then -1 else if fwG mk w n f (dr ||| 2 ^ (lgB mk w (dr : Int) n).toNat) (ms - w (lgB mk w (dr : Int) n).toNat) < 0 then -1 else fwG mk w n f (dr ||| 2 ^ (lgB mk w (dr : Int) n).toNat) (ms - w (lgB mk w (dr : Int) n).toNat) + 1
theorem fwG_le {mk w : Nat → Int} {n f dr : Nat} {ms : Int} (h : ms ≤ 0) : fwG mk w n f dr ms = 0 := by
  cases f with
  | zero => rfl
  | succ f => unfold fwG; rw [if_pos h]
theorem fwG_no {mk w : Nat → Int} {n f dr : Nat} {ms : Int} (h : ¬ ms ≤ 0) (h2 : lgB mk w (dr : Int) n < 0) : fwG mk w n (f + 1) dr ms = -1 := by
  unfold fwG; rw [if_neg h, if_pos h2]
theorem fwG_st {mk w : Nat → Int} {n f dr : Nat} {ms : Int} (h : ¬ ms ≤ 0) (h2 : ¬ lgB mk w (dr : Int) n < 0) : fwG mk w n (f + 1) dr ms = if fwG mk w n f (dr ||| 2 ^ (lgB mk w (dr : Int) n).toNat) (ms - w (lgB mk w (dr : Int) n).toNat) < 0 then -1 else fwG mk w n f (dr ||| 2 ^ (lgB mk w (dr : Int) n).toNat) (ms - w (lgB mk w (dr : Int) n).toNat) + 1 := by
  rw [fwG, if_neg h, if_neg h2]
def fwB (mk w : Nat → Int) (n : Nat) (ms : Int) : Int := fwG mk w n 13 0 ms
theorem fwG_rg (mk w : Nat → Int) (n : Nat) (f : Nat) : ∀ dr ms, -1 ≤ fwG mk w n f dr ms ∧ fwG mk w n f dr ms ≤ f := by
  induction f with
  | zero => intro dr ms; simp [fwG]
  | succ f ih =>
    intro dr ms
    have := ih (dr ||| 2 ^ (lgB mk w (dr : Int) n).toNat) (ms - w (lgB mk w (dr : Int) n).toNat)
    unfold fwG
    split
    · omega
    · split
      · omega
      · split <;> omega
theorem fwB_rg (mk w : Nat → Int) (n : Nat) (ms : Int) : -1 ≤ fwB mk w n ms ∧ fwB mk w n ms ≤ 13 := fwG_rg mk w n 13 0 ms
def lbG (mk w : Nat → Int) : Nat → Nat → Int → Int → Nat
  | 0, bt, _, _ => bt
  | p + 1, bt, rm, ms => if fwB mk w p ms < 0 ∨ rm < fwB mk w p ms then lbG mk w p (bt ||| 2 ^ p) (rm - 1) (ms - w p) else lbG mk w p bt rm ms
section
variable {Γ : GX} {M : MD} {rm : Room} {mc ms : Nat} {Q : Option AV → Shp → Mem → Prop} {k n pc : Nat} {loc : List (Option AV)} {st : List AV} {S : Shp} {m : Mem}
theorem R_iorB {a : Nat} {sh : Int} (q : Nat) (hq : pc + 1 = q) (hd : decode M.2.1 pc = .ok (.ior, 1)) (kk : R Γ M rm mc ms Q k n q loc (vi ((a ||| 2 ^ sh.toNat : Nat) : Int) :: st) S m) : R Γ M rm mc ms Q k n pc loc (vi (1 * 2 ^ sh.toNat) :: vi (a : Int) :: st) S m := by
  have e : (1 * 2 ^ sh.toNat : Int) = ((2 ^ sh.toNat : Nat) : Int) := by rw [Int.one_mul]; push_cast; rfl
  rw [e]
  exact R_ior q hq hd kk
end
section
variable {Γ : GX} {m : Mem} {B : Bk} {L : Ld} {ch : Cs} {o d : Nat} {mk ab : Nat → Int} {al : Int}
theorem or_lt {a p : Nat} (ha : a < 4096) (hp : p < 12) : a ||| 2 ^ p < 4096 := Nat.or_lt_two_pow (n := 12) ha (Nat.lt_of_lt_of_le (Nat.pow_lt_pow_right (by decide) hp) (Nat.le_refl _))
theorem c_X10_allHaveMarks (b : Int) (hCS : CS o d L B ch m) (hT : Tl 88 89 90 m mk ab al) (hr : ∀ g, g < 15 → 0 ≤ mk g ∧ mk g ≤ 80) (hb : rg b) : C Γ mX10_allHaveMarks 1 40 0 0 [vr 0, vi b] SH m (Qi SH m (pI (aHM mk b (npN L) = true))) := by
  refine C_of_R rfl (Nat.le_of_ble_eq_true rfl) ?_
  obtain ⟨hPO, hB, hO, hL, hLO, hC, hCO, hst, hkc⟩ := id hCS
  have hP := hPO.2
  have h9 := npN_le hLO
  obtain ⟨t1, t2⟩ := hT
  have Lp : ∀ k, k ≤ npN L → ∀ z, (∀ j, j < k → tb b (j : Int) = true → mk j ≠ 0) → z = (k : Int) → R Γ mX10_allHaveMarks { frames := 1, cells := 0, slots := 0, locals := 40 } 0 0 (Qi SH m (pI (aHM mk b (npN L) = true))) 0 0 2 [some (vr 0), some (vi b), some (vi z)] [] SH m := by
    rcases hL with ⟨rfl, hL⟩ | ⟨rfl, hL⟩
    all_goals
      have h2 := hL.1
      refine up_ind (npN L) (fun k hk ih z ha hz => ?_)
      refine R_iload_n 3 rfl dX10_allHaveMarks_2 rfl ?_
      refine R_aload_n 4 rfl dX10_allHaveMarks_3 rfl ?_
      refine R_getP 2 7 rfl dX10_allHaveMarks_4 rfl rfl fl_X10_26 (PO_o hPO) ?_
      refine R_getI 0 10 rfl dX10_allHaveMarks_7 rfl rfl fl_X10_125 ?_
      refine R_icmp_ge 13 41 rfl rfl dX10_allHaveMarks_10 (by first | assumption | exact ⟨by omega, by omega⟩) (by first | assumption | exact ⟨by omega, by omega⟩) (fun h10 => ?_) (fun h10 => ?_)
      · refine R_iconst 42 rfl dX10_allHaveMarks_41 ?_
        refine R_zreturn dX10_allHaveMarks_42 rfl (by first | decide | exact pI_01 _) ?_
        exact Qi_mk (pI_1 ((allN_iff _ _).mpr (fun j hj => by have := ha j (by omega); by_cases e : tb b (j : Int) = true; (simp [e]; exact this e); simp [e])))
      · have h4 := t2 k (by omega)
        have h5 := hr k (by omega)
        refine R_iload_n 14 rfl dX10_allHaveMarks_13 rfl ?_
        refine R_iload_n 15 rfl dX10_allHaveMarks_14 rfl ?_
        refine R_callS_i (M' := mX10_hasBit) 18 rfl dX10_allHaveMarks_15 ml_X10_284 kmX10_hasBit st_X10_hasBit (c_X10_hasBit _ _ k hb (by omega) (by omega)) rfl rfl ⟨Nat.le_of_ble_eq_true rfl, Nat.le_of_ble_eq_true rfl⟩ (Nat.le_of_ble_eq_true rfl) ⟨Nat.le_of_ble_eq_true rfl, Nat.le_of_ble_eq_true rfl⟩ ?_
        refine R_ifp_eq 21 35 rfl rfl dX10_allHaveMarks_18 (fun h18 => ?_) (fun h18 => ?_)
        · refine R_iinc [_, _, _] 38 rfl dX10_allHaveMarks_35 rfl rfl (by decide) ?_
          refine R_goto 2 rfl dX10_allHaveMarks_38 ?_
          exact ih (by omega) _ (fun j hj q => by by_cases e : j = k; (subst e; simp [tb] at q; omega); exact ha j (by omega) q) (by omega)
        · refine R_aload_n 22 rfl dX10_allHaveMarks_21 rfl ?_
          refine R_getP 12 25 rfl dX10_allHaveMarks_22 rfl rfl fl_X10_82 (hP _ _ _ rfl) ?_
          refine R_getP 0 28 rfl dX10_allHaveMarks_25 rfl rfl fl_X10_242 (hP _ _ _ rfl) ?_
          refine R_iload_n 29 rfl dX10_allHaveMarks_28 rfl ?_
          refine R_iald k 30 rfl dX10_allHaveMarks_29 rfl (by first | rfl | omega) (by omega) (by decide) ?_
          refine R_if_ne 33 35 rfl rfl dX10_allHaveMarks_30 (by first | assumption | exact ⟨by omega, by omega⟩) (fun h30 => ?_) (fun h30 => ?_)
          · refine R_iinc [_, _, _] 38 rfl dX10_allHaveMarks_35 rfl rfl (by decide) ?_
            refine R_goto 2 rfl dX10_allHaveMarks_38 ?_
            exact ih (by omega) _ (fun j hj q => by by_cases e : j = k; (subst e; simp [tb] at q; omega); exact ha j (by omega) q) (by omega)
          · refine R_iconst 34 rfl dX10_allHaveMarks_33 ?_
            refine R_zreturn dX10_allHaveMarks_34 rfl (by first | decide | exact pI_01 _) ?_
            exact Qi_mk (pI_0 (fun q => by have := (allN_iff _ _).mp q k (by omega); have e : tb b (k : Int) = true := (by simp [tb]; omega); simp [e] at this; omega))
  rcases hL with ⟨rfl, hL⟩ | ⟨rfl, hL⟩
  all_goals
    refine R_iconst 1 rfl dX10_allHaveMarks_0 ?_
    refine R_istore_n [_, _, _] 2 rfl dX10_allHaveMarks_1 rfl (by decide) ?_
    exact Lp 0 (by omega) _ (fun j hj => by omega) rfl
theorem c_X10_largestBelow (z dr : Int) (n : Nat) (hCS : CS o d L B ch m) (hT : Tl 88 89 90 m mk ab al) (hr : ∀ g, g < 15 → 0 ≤ mk g ∧ mk g ≤ 80) (hz : z = (n : Int)) (hn : n ≤ npN L) (hd : rg dr) : C Γ mX10_largestBelow 1 40 0 0 [vr 0, vi z, vi dr] SH m (Qi SH m (lgB mk (L.2.1 0) dr n)) := by
  refine C_of_R rfl (Nat.le_of_ble_eq_true rfl) ?_
  obtain ⟨hPO, hB, hO, hL, hLO, hC, hCO, hst, hkc⟩ := id hCS
  have hP := hPO.2
  have h9 := npN_le hLO
  obtain ⟨t1, t2⟩ := hT
  have Lp : ∀ k, k ≤ n → ∀ b i (l5 : Option AV), b = lgB mk (L.2.1 0) dr k → i = (k : Int) → R Γ mX10_largestBelow { frames := 1, cells := 0, slots := 0, locals := 40 } 0 0 (Qi SH m (lgB mk (L.2.1 0) dr n)) 0 0 5 [some (vr 0), some (vi z), some (vi dr), some (vi b), some (vi i), l5] [] SH m := by
    rcases hL with ⟨rfl, hL⟩ | ⟨rfl, hL⟩
    all_goals
      have h2 := hL.1
      refine up_ind n (fun k hk ih b i l5 hb hi => ?_)
      have h8 := lgB_rg mk (L.2.1 0) dr k
      refine R_iload 7 rfl dX10_largestBelow_5 rfl ?_
      refine R_iload_n 8 rfl dX10_largestBelow_7 rfl ?_
      refine R_icmp_ge 11 84 rfl rfl dX10_largestBelow_8 (by first | assumption | exact ⟨by omega, by omega⟩) (by first | assumption | exact ⟨by omega, by omega⟩) (fun h8 => ?_) (fun h8 => ?_)
      · refine R_iload_n 85 rfl dX10_largestBelow_84 rfl ?_
        refine R_ireturn dX10_largestBelow_85 rfl ?_
        exact Qi_mk (by rw [hb, show k = n by omega])
      · have h4 := t2 k (by omega)
        have h5 := hr k (by omega)
        have h6 := hL.2.2.1 k (by omega)
        have h7 := hLO.2.2.1 k (by omega)
        have e0 : tb dr (k : Int) = true ↔ dr / 2 ^ k % 2 = 1 := (by simp [tb])
        refine R_aload_n 12 rfl dX10_largestBelow_11 rfl ?_
        refine R_getP 12 15 rfl dX10_largestBelow_12 rfl rfl fl_X10_82 (hP _ _ _ rfl) ?_
        refine R_getP 0 18 rfl dX10_largestBelow_15 rfl rfl fl_X10_242 (hP _ _ _ rfl) ?_
        refine R_iload 20 rfl dX10_largestBelow_18 rfl ?_
        refine R_iald k 21 rfl dX10_largestBelow_20 rfl (by first | rfl | omega) (by omega) (by decide) ?_
        refine R_if_le 24 37 rfl rfl dX10_largestBelow_21 (by first | assumption | exact ⟨by omega, by omega⟩) (fun h21 => ?_) (fun h21 => ?_)
        · refine R_iconst 38 rfl dX10_largestBelow_37 ?_
          refine R_istore [_, _, _, _, _, _] 40 rfl dX10_largestBelow_38 rfl (by decide) ?_
          refine R_iload 42 rfl dX10_largestBelow_40 rfl ?_
          refine R_if_eq 45 78 rfl rfl dX10_largestBelow_42 (by first | assumption | exact ⟨by omega, by omega⟩) (fun h42 => ?_) (fun h42 => ?_)
          rotate_left
          · exact absurd h42 (by omega)
          refine R_iinc [_, _, _, _, _, _] 81 rfl dX10_largestBelow_78 rfl rfl (by decide) ?_
          refine R_goto 5 rfl dX10_largestBelow_81 ?_
          first | exact ih (by omega) _ _ _ (by unfold lgB; rw [← hb, if_pos ⟨by omega, by rw [e0]; omega, by omega⟩]; omega) (by omega) | exact ih (by omega) _ _ _ (by unfold lgB; rw [← hb, if_neg (fun q => by have := q.1; have := q.2.2; omega)]) (by omega) | exact ih (by omega) _ _ _ (by unfold lgB; rw [← hb, if_neg (fun q => by have := q.2.1; rw [e0] at this; omega)]) (by omega)
        · refine R_iload_n 25 rfl dX10_largestBelow_24 rfl ?_
          refine R_iload 27 rfl dX10_largestBelow_25 rfl ?_
          refine R_callS_i (M' := mX10_hasBit) 30 rfl dX10_largestBelow_27 ml_X10_284 kmX10_hasBit st_X10_hasBit (c_X10_hasBit _ _ k hd (by omega) (by omega)) rfl rfl ⟨Nat.le_of_ble_eq_true rfl, Nat.le_of_ble_eq_true rfl⟩ (Nat.le_of_ble_eq_true rfl) ⟨Nat.le_of_ble_eq_true rfl, Nat.le_of_ble_eq_true rfl⟩ ?_
          refine R_ifp_ne 33 37 rfl rfl dX10_largestBelow_30 (fun h30 => ?_) (fun h30 => ?_)
          · refine R_iconst 38 rfl dX10_largestBelow_37 ?_
            refine R_istore [_, _, _, _, _, _] 40 rfl dX10_largestBelow_38 rfl (by decide) ?_
            refine R_iload 42 rfl dX10_largestBelow_40 rfl ?_
            refine R_if_eq 45 78 rfl rfl dX10_largestBelow_42 (by first | assumption | exact ⟨by omega, by omega⟩) (fun h42 => ?_) (fun h42 => ?_)
            rotate_left
            · exact absurd h42 (by omega)
            refine R_iinc [_, _, _, _, _, _] 81 rfl dX10_largestBelow_78 rfl rfl (by decide) ?_
            refine R_goto 5 rfl dX10_largestBelow_81 ?_
            first | exact ih (by omega) _ _ _ (by unfold lgB; rw [← hb, if_pos ⟨by omega, by rw [e0]; omega, by omega⟩]; omega) (by omega) | exact ih (by omega) _ _ _ (by unfold lgB; rw [← hb, if_neg (fun q => by have := q.1; have := q.2.2; omega)]) (by omega) | exact ih (by omega) _ _ _ (by unfold lgB; rw [← hb, if_neg (fun q => by have := q.2.1; rw [e0] at this; omega)]) (by omega)
          · refine R_iconst 34 rfl dX10_largestBelow_33 ?_
            refine R_goto 38 rfl dX10_largestBelow_34 ?_
            refine R_istore [_, _, _, _, _, _] 40 rfl dX10_largestBelow_38 rfl (by decide) ?_
            refine R_iload 42 rfl dX10_largestBelow_40 rfl ?_
            refine R_if_eq 45 78 rfl rfl dX10_largestBelow_42 (by first | assumption | exact ⟨by omega, by omega⟩) (fun h42 => ?_) (fun h42 => ?_)
            · exact absurd h42 (by omega)
            refine R_iload_n 46 rfl dX10_largestBelow_45 rfl ?_
            refine R_if_lt 49 75 rfl rfl dX10_largestBelow_46 (by first | assumption | exact ⟨by omega, by omega⟩) (fun h46 => ?_) (fun h46 => ?_)
            · refine R_iload 77 rfl dX10_largestBelow_75 rfl ?_
              refine R_istore_n [_, _, _, _, _, _] 78 rfl dX10_largestBelow_77 rfl (by decide) ?_
              refine R_iinc [_, _, _, _, _, _] 81 rfl dX10_largestBelow_78 rfl rfl (by decide) ?_
              refine R_goto 5 rfl dX10_largestBelow_81 ?_
              first | exact ih (by omega) _ _ _ (by unfold lgB; rw [← hb, if_pos ⟨by omega, by rw [e0]; omega, by omega⟩]; omega) (by omega) | exact ih (by omega) _ _ _ (by unfold lgB; rw [← hb, if_neg (fun q => by have := q.1; have := q.2.2; omega)]) (by omega) | exact ih (by omega) _ _ _ (by unfold lgB; rw [← hb, if_neg (fun q => by have := q.2.1; rw [e0] at this; omega)]) (by omega)
            · have r6 := hL.2.2.1 b.toNat (by omega)
              have r7 := hLO.2.2.1 b.toNat (by omega)
              refine R_aload_n 50 rfl dX10_largestBelow_49 rfl ?_
              refine R_getP 2 53 rfl dX10_largestBelow_50 rfl rfl fl_X10_26 (PO_o hPO) ?_
              refine R_getP 8 56 rfl dX10_largestBelow_53 rfl rfl fl_X10_157 (hP _ _ _ rfl) ?_
              refine R_iconst 57 rfl dX10_largestBelow_56 ?_
              refine R_aald 0 58 rfl dX10_largestBelow_57 rfl rfl (by first | rfl | omega) (by decide) (by decide) (hP _ _ _ rfl) ?_
              refine R_iload 60 rfl dX10_largestBelow_58 rfl ?_
              refine R_iald k 61 rfl dX10_largestBelow_60 rfl (by first | rfl | omega) (by omega) (by decide) ?_
              refine R_aload_n 62 rfl dX10_largestBelow_61 rfl ?_
              refine R_getP 2 65 rfl dX10_largestBelow_62 rfl rfl fl_X10_26 (PO_o hPO) ?_
              refine R_getP 8 68 rfl dX10_largestBelow_65 rfl rfl fl_X10_157 (hP _ _ _ rfl) ?_
              refine R_iconst 69 rfl dX10_largestBelow_68 ?_
              refine R_aald 0 70 rfl dX10_largestBelow_69 rfl rfl (by first | rfl | omega) (by decide) (by decide) (hP _ _ _ rfl) ?_
              refine R_iload_n 71 rfl dX10_largestBelow_70 rfl ?_
              refine R_iald b.toNat 72 rfl dX10_largestBelow_71 rfl (by first | rfl | omega) (by omega) (by decide) ?_
              refine R_icmp_le 75 78 rfl rfl dX10_largestBelow_72 (by first | assumption | exact ⟨by omega, by omega⟩) (by first | assumption | exact ⟨by omega, by omega⟩) (fun h72 => ?_) (fun h72 => ?_)
              · refine R_iinc [_, _, _, _, _, _] 81 rfl dX10_largestBelow_78 rfl rfl (by decide) ?_
                refine R_goto 5 rfl dX10_largestBelow_81 ?_
                first | exact ih (by omega) _ _ _ (by unfold lgB; rw [← hb, if_pos ⟨by omega, by rw [e0]; omega, by omega⟩]; omega) (by omega) | exact ih (by omega) _ _ _ (by unfold lgB; rw [← hb, if_neg (fun q => by have := q.1; have := q.2.2; omega)]) (by omega) | exact ih (by omega) _ _ _ (by unfold lgB; rw [← hb, if_neg (fun q => by have := q.2.1; rw [e0] at this; omega)]) (by omega)
              · refine R_iload 77 rfl dX10_largestBelow_75 rfl ?_
                refine R_istore_n [_, _, _, _, _, _] 78 rfl dX10_largestBelow_77 rfl (by decide) ?_
                refine R_iinc [_, _, _, _, _, _] 81 rfl dX10_largestBelow_78 rfl rfl (by decide) ?_
                refine R_goto 5 rfl dX10_largestBelow_81 ?_
                first | exact ih (by omega) _ _ _ (by unfold lgB; rw [← hb, if_pos ⟨by omega, by rw [e0]; omega, by omega⟩]; omega) (by omega) | exact ih (by omega) _ _ _ (by unfold lgB; rw [← hb, if_neg (fun q => by have := q.1; have := q.2.2; omega)]) (by omega) | exact ih (by omega) _ _ _ (by unfold lgB; rw [← hb, if_neg (fun q => by have := q.2.1; rw [e0] at this; omega)]) (by omega)
  refine R_iconst 1 rfl dX10_largestBelow_0 ?_
  refine R_istore_n [_, _, _, _, _, _] 2 rfl dX10_largestBelow_1 rfl (by decide) ?_
  refine R_iconst 3 rfl dX10_largestBelow_2 ?_
  refine R_istore [_, _, _, _, _, _] 5 rfl dX10_largestBelow_3 rfl (by decide) ?_
  exact Lp 0 (by omega) _ _ _ rfl rfl
theorem c_X10_leastDrawn {S : Shp} (al a b : Int) (h0 : 0 ≤ al ∧ al ≤ 12000) (h1 : 1 ≤ b ∧ b ≤ 999) (h2 : 0 ≤ a ∧ a ≤ b) : C Γ mX10_leastDrawn 0 0 0 0 [vi al, vi a, vi b] S m (Qi S m (al - al * a / b)) := by
  refine C_of_R rfl (Nat.le_of_ble_eq_true rfl) ?_
  have h3 : 0 ≤ al * a := Int.mul_nonneg h0.1 h2.1
  have h4 : al * a ≤ 12000 * 999 := Int.mul_le_mul h0.2 (by omega) h2.1 (by omega)
  refine R_iload_n 1 rfl dX10_leastDrawn_0 rfl ?_
  refine R_iconst 2 rfl dX10_leastDrawn_1 ?_
  refine R_icmp_ge 5 9 rfl rfl dX10_leastDrawn_2 (by first | assumption | exact ⟨by omega, by omega⟩) (by first | assumption | exact ⟨by omega, by omega⟩) (fun h2 => ?_) (fun h2 => ?_)
  · refine R_iload_n 10 rfl dX10_leastDrawn_9 rfl ?_
    refine R_iload_n 11 rfl dX10_leastDrawn_10 rfl ?_
    refine R_iload_n 12 rfl dX10_leastDrawn_11 rfl ?_
    refine R_imul 13 rfl dX10_leastDrawn_12 ?_
    refine R_iload_n 14 rfl dX10_leastDrawn_13 rfl ?_
    refine R_idiv_p 15 rfl dX10_leastDrawn_14 (by first | assumption | exact ⟨by omega, by omega⟩) (by first | assumption | exact ⟨by omega, by omega⟩) (by omega) (by omega) ?_
    refine R_isub 16 rfl dX10_leastDrawn_15 ?_
    refine R_ireturn dX10_leastDrawn_16 rfl ?_
    first | exact Qi_mk rfl | (exfalso; omega)
  · refine R_iload_n 6 rfl dX10_leastDrawn_5 rfl ?_
    refine R_goto 16 rfl dX10_leastDrawn_6 ?_
    refine R_ireturn dX10_leastDrawn_16 rfl ?_
    first | exact Qi_mk rfl | (exfalso; omega)
theorem c_X10_fewestBelow (z nd : Int) (n : Nat) (hCS : CS o d L B ch m) (hT : Tl 88 89 90 m mk ab al) (hr : ∀ g, g < 15 → 0 ≤ mk g ∧ mk g ≤ 80) (hz : z = (n : Int)) (hn : n ≤ npN L) (hd : -20000 ≤ nd ∧ nd ≤ 20000) : C Γ mX10_fewestBelow 2 80 0 0 [vr 0, vi z, vi nd] SH m (Qi SH m (fwB mk (L.2.1 0) n nd)) := by
  refine C_of_R rfl (Nat.le_of_ble_eq_true rfl) ?_
  obtain ⟨hPO, hB, hO, hL, hLO, hC, hCO, hst, hkc⟩ := id hCS
  have hP := hPO.2
  have h9 := npN_le hLO
  have hT2 := hT
  have Lp : ∀ k : Nat, k ≤ 13 → ∀ (dr : Nat) few mi (l6 : Option AV), dr < 4096 → -20000 ≤ mi ∧ mi ≤ 20000 → few = (k : Int) → (if fwG mk (L.2.1 0) n (13 - k) dr mi < 0 then -1 else fwG mk (L.2.1 0) n (13 - k) dr mi + k) = fwB mk (L.2.1 0) n nd → R Γ mX10_fewestBelow { frames := 2, cells := 0, slots := 0, locals := 80 } 0 0 (Qi SH m (fwB mk (L.2.1 0) n nd)) 0 0 8 [some (vr 0), some (vi z), some (vi nd), some (vi (dr : Int)), some (vi few), some (vi mi), l6] [] SH m := by
    rcases hL with ⟨rfl, hL⟩ | ⟨rfl, hL⟩
    all_goals
      have h2 := hL.1
      refine up_ind 13 (fun k hk ih dr few mi l6 hdr hmi hf hX => ?_)
      have h8 := lgB_rg mk (L.2.1 0) (dr : Int) n
      refine R_iload 10 rfl dX10_fewestBelow_8 rfl ?_
      refine R_if_le 13 65 rfl rfl dX10_fewestBelow_10 (by first | assumption | exact ⟨by omega, by omega⟩) (fun h10 => ?_) (fun h10 => ?_)
      · refine R_iload 67 rfl dX10_fewestBelow_65 rfl ?_
        refine R_ireturn dX10_fewestBelow_67 rfl ?_
        refine Qi_mk ?_
        rw [← hX]
        by_cases e : k = 13
        · subst e; simp [fwG]; omega
        · rw [fwG_le (by omega), if_neg (by omega)]; omega
      · refine R_iload 15 rfl dX10_fewestBelow_13 rfl ?_
        refine R_bipush 17 rfl dX10_fewestBelow_15 (by decide) ?_
        refine R_icmp_gt 20 65 rfl rfl dX10_fewestBelow_17 (by first | assumption | exact ⟨by omega, by omega⟩) (by first | assumption | exact ⟨by omega, by omega⟩) (fun h17 => ?_) (fun h17 => ?_)
        · refine R_iload 67 rfl dX10_fewestBelow_65 rfl ?_
          refine R_ireturn dX10_fewestBelow_67 rfl ?_
          refine Qi_mk ?_
          rw [← hX]
          by_cases e : k = 13
          · subst e; simp [fwG]; omega
          · rw [fwG_le (by omega), if_neg (by omega)]; omega
        · refine R_aload_n 21 rfl dX10_fewestBelow_20 rfl ?_
          refine R_iload_n 22 rfl dX10_fewestBelow_21 rfl ?_
          refine R_iload_n 23 rfl dX10_fewestBelow_22 rfl ?_
          refine R_callV_i (M' := mX10_largestBelow) 26 rfl dX10_fewestBelow_23 ml_X10_301 kmX10_largestBelow im_X10_largestBelow se_X10_largestBelow rfl ⟨by decide, rfl⟩ (c_X10_largestBelow _ _ n hCS hT2 hr hz hn ⟨by omega, by omega⟩) rfl rfl ⟨Nat.le_of_ble_eq_true rfl, Nat.le_of_ble_eq_true rfl⟩ (Nat.le_of_ble_eq_true rfl) ⟨Nat.le_of_ble_eq_true rfl, Nat.le_of_ble_eq_true rfl⟩ ?_
          refine R_istore [_, _, _, _, _, _, _] 28 rfl dX10_fewestBelow_26 rfl (by decide) ?_
          refine R_iload 30 rfl dX10_fewestBelow_28 rfl ?_
          refine R_if_ge 33 35 rfl rfl dX10_fewestBelow_30 (by first | assumption | exact ⟨by omega, by omega⟩) (fun h30 => ?_) (fun h30 => ?_)
          · have r6 := hL.2.2.1 (lgB mk (L.2.1 0) (dr : Int) n).toNat (by omega)
            have r7 := hLO.2.2.1 (lgB mk (L.2.1 0) (dr : Int) n).toNat (by omega)
            refine R_iload_n 36 rfl dX10_fewestBelow_35 rfl ?_
            refine R_iconst 37 rfl dX10_fewestBelow_36 ?_
            refine R_iload 39 rfl dX10_fewestBelow_37 rfl ?_
            refine R_ishl 40 rfl dX10_fewestBelow_39 (by omega) (by omega) ?_
            refine R_iorB 41 rfl dX10_fewestBelow_40 ?_
            refine R_istore_n [_, _, _, _, _, _, _] 42 rfl dX10_fewestBelow_41 rfl (by decide) ?_
            refine R_iload 44 rfl dX10_fewestBelow_42 rfl ?_
            refine R_aload_n 45 rfl dX10_fewestBelow_44 rfl ?_
            refine R_getP 2 48 rfl dX10_fewestBelow_45 rfl rfl fl_X10_26 (PO_o hPO) ?_
            refine R_getP 8 51 rfl dX10_fewestBelow_48 rfl rfl fl_X10_157 (hP _ _ _ rfl) ?_
            refine R_iconst 52 rfl dX10_fewestBelow_51 ?_
            refine R_aald 0 53 rfl dX10_fewestBelow_52 rfl rfl (by first | rfl | omega) (by decide) (by decide) (hP _ _ _ rfl) ?_
            refine R_iload 55 rfl dX10_fewestBelow_53 rfl ?_
            refine R_iald (lgB mk (L.2.1 0) (dr : Int) n).toNat 56 rfl dX10_fewestBelow_55 rfl (by first | rfl | omega) (by omega) (by decide) ?_
            refine R_isub 57 rfl dX10_fewestBelow_56 ?_
            refine R_istore [_, _, _, _, _, _, _] 59 rfl dX10_fewestBelow_57 rfl (by decide) ?_
            refine R_iinc [_, _, _, _, _, _, _] 62 rfl dX10_fewestBelow_59 rfl rfl (by decide) ?_
            refine R_goto 8 rfl dX10_fewestBelow_62 ?_
            refine ih (by omega) _ _ _ _ (or_lt hdr (by omega)) ⟨by omega, by omega⟩ (by omega) ?_
            rw [← hX, show 13 - k = (13 - (k + 1)) + 1 by omega, fwG_st (by omega) (by omega), r6.1]
            have q0 := fwG_rg mk (L.2.1 0) n (13 - (k + 1)) (dr ||| 2 ^ (lgB mk (L.2.1 0) (dr : Int) n).toNat) (mi - L.2.1 0 (lgB mk (L.2.1 0) (dr : Int) n).toNat)
            by_cases e : fwG mk (L.2.1 0) n (13 - (k + 1)) (dr ||| 2 ^ (lgB mk (L.2.1 0) (dr : Int) n).toNat) (mi - L.2.1 0 (lgB mk (L.2.1 0) (dr : Int) n).toNat) < 0
            · rw [if_pos e, if_pos e, if_pos (by omega)]
            · rw [if_neg e, if_neg e, if_neg (by omega)]; omega
          · refine R_iconst 34 rfl dX10_fewestBelow_33 ?_
            refine R_ireturn dX10_fewestBelow_34 rfl ?_
            exact Qi_mk (by rw [← hX, show 13 - k = (13 - (k + 1)) + 1 by omega, fwG_no (by omega) (by omega)]; rfl)
  refine R_iconst 1 rfl dX10_fewestBelow_0 ?_
  refine R_istore_n [_, _, _, _, _, _, _] 2 rfl dX10_fewestBelow_1 rfl (by decide) ?_
  refine R_iconst 3 rfl dX10_fewestBelow_2 ?_
  refine R_istore [_, _, _, _, _, _, _] 5 rfl dX10_fewestBelow_3 rfl (by decide) ?_
  refine R_iload_n 6 rfl dX10_fewestBelow_5 rfl ?_
  refine R_istore [_, _, _, _, _, _, _] 8 rfl dX10_fewestBelow_6 rfl (by decide) ?_
  refine Lp 0 (by omega) 0 _ _ _ (by omega) hd rfl ?_
  have q0 := fwB_rg mk (L.2.1 0) n nd
  show (if fwB mk (L.2.1 0) n nd < 0 then -1 else fwB mk (L.2.1 0) n nd + ((0 : Nat) : Int)) = _
  by_cases e : fwB mk (L.2.1 0) n nd < 0
  · rw [if_pos e]; omega
  · rw [if_neg e]; omega
theorem c_X10_leastBits (few nd : Int) (hCS : CS o d L B ch m) (hT : Tl 88 89 90 m mk ab al) (hr : ∀ g, g < 15 → 0 ≤ mk g ∧ mk g ≤ 80) (hf : 0 ≤ few ∧ few ≤ 13) (hd : 0 ≤ nd ∧ nd ≤ 12000) : C Γ mX10_leastBits 3 120 0 0 [vr 0, vi few, vi nd] SH m (Qi SH m (lbG mk (L.2.1 0) (npN L) 0 few nd : Int)) := by
  refine C_of_R rfl (Nat.le_of_ble_eq_true rfl) ?_
  obtain ⟨hPO, hB, hO, hL, hLO, hC, hCO, hst, hkc⟩ := id hCS
  have hP := hPO.2
  have h9 := npN_le hLO
  have hT2 := hT
  have Lp : ∀ j : Nat, j ≤ npN L → ∀ (bt : Nat) room mi z (l7 : Option AV), bt < 4096 → -20 + (j : Int) ≤ room ∧ room ≤ 20 → -20000 + 999 * (j : Int) ≤ mi ∧ mi ≤ 12000 → z = (j : Int) - 1 → lbG mk (L.2.1 0) j bt room mi = lbG mk (L.2.1 0) (npN L) 0 few nd → R Γ mX10_leastBits { frames := 3, cells := 0, slots := 0, locals := 120 } 0 0 (Qi SH m (lbG mk (L.2.1 0) (npN L) 0 few nd : Int)) 0 0 19 [some (vr 0), some (vi few), some (vi nd), some (vi (bt : Int)), some (vi room), some (vi mi), some (vi z), l7] [] SH m := by
    rcases hL with ⟨rfl, hL⟩ | ⟨rfl, hL⟩
    all_goals
      have h2 := hL.1
      intro j
      induction j with
      | zero =>
        intro hj bt room mi z l7 hbt hrm hmi hz hX
        refine R_iload 21 rfl dX10_leastBits_19 rfl ?_
        refine R_if_lt 24 79 rfl rfl dX10_leastBits_21 ⟨by omega, by omega⟩ (fun h21 => ?_) (fun h21 => ?_)
        · refine R_iload_n 80 rfl dX10_leastBits_79 rfl ?_
          refine R_ireturn dX10_leastBits_80 rfl ?_
          exact Qi_mk (by rw [← hX]; rfl)
        · exfalso; omega
      | succ j ih =>
        intro hj bt room mi z l7 hbt hrm hmi hz hX
        have h8 := fwB_rg mk (L.2.1 0) j mi
        have r6 := hL.2.2.1 j (by omega)
        have r7 := hLO.2.2.1 j (by omega)
        have ez : z.toNat = j := by omega
        refine R_iload 21 rfl dX10_leastBits_19 rfl ?_
        refine R_if_lt 24 79 rfl rfl dX10_leastBits_21 ⟨by omega, by omega⟩ (fun h21 => ?_) (fun h21 => ?_)
        · exfalso; omega
        · refine R_aload_n 25 rfl dX10_leastBits_24 rfl ?_
          refine R_iload 27 rfl dX10_leastBits_25 rfl ?_
          refine R_iload 29 rfl dX10_leastBits_27 rfl ?_
          refine R_callV_i (M' := mX10_fewestBelow) 32 rfl dX10_leastBits_29 ml_X10_307 kmX10_fewestBelow im_X10_fewestBelow se_X10_fewestBelow rfl ⟨by decide, rfl⟩ (c_X10_fewestBelow _ _ j hCS hT2 hr (by omega) (by omega) ⟨by omega, by omega⟩) rfl rfl ⟨Nat.le_of_ble_eq_true rfl, Nat.le_of_ble_eq_true rfl⟩ (Nat.le_of_ble_eq_true rfl) ⟨Nat.le_of_ble_eq_true rfl, Nat.le_of_ble_eq_true rfl⟩ ?_
          refine R_istore [_, _, _, _, _, _, _, _] 34 rfl dX10_leastBits_32 rfl (by decide) ?_
          refine R_iload 36 rfl dX10_leastBits_34 rfl ?_
          refine R_if_lt 39 46 rfl rfl dX10_leastBits_36 ⟨by omega, by omega⟩ (fun h36 => ?_) (fun h36 => ?_)
          · refine R_iload_n 47 rfl dX10_leastBits_46 rfl ?_
            refine R_iconst 48 rfl dX10_leastBits_47 ?_
            refine R_iload 50 rfl dX10_leastBits_48 rfl ?_
            refine R_ishl 51 rfl dX10_leastBits_50 (by omega) (by omega) ?_
            refine R_iorB 52 rfl dX10_leastBits_51 ?_
            refine R_istore_n [_, _, _, _, _, _, _, _] 53 rfl dX10_leastBits_52 rfl (by decide) ?_
            refine R_iinc [_, _, _, _, _, _, _, _] 56 rfl dX10_leastBits_53 rfl rfl (by decide) ?_
            refine R_iload 58 rfl dX10_leastBits_56 rfl ?_
            refine R_aload_n 59 rfl dX10_leastBits_58 rfl ?_
            refine R_getP 2 62 rfl dX10_leastBits_59 rfl rfl fl_X10_26 (PO_o hPO) ?_
            refine R_getP 8 65 rfl dX10_leastBits_62 rfl rfl fl_X10_157 (hP _ _ _ rfl) ?_
            refine R_iconst 66 rfl dX10_leastBits_65 ?_
            refine R_aald 0 67 rfl dX10_leastBits_66 rfl rfl (by first | rfl | omega) (by decide) (by decide) (hP _ _ _ rfl) ?_
            refine R_iload 69 rfl dX10_leastBits_67 rfl ?_
            refine R_iald j 70 rfl dX10_leastBits_69 rfl (by first | rfl | omega) (by omega) (by decide) ?_
            refine R_isub 71 rfl dX10_leastBits_70 ?_
            refine R_istore [_, _, _, _, _, _, _, _] 73 rfl dX10_leastBits_71 rfl (by decide) ?_
            refine R_iinc [_, _, _, _, _, _, _, _] 76 rfl dX10_leastBits_73 rfl rfl (by decide) ?_
            refine R_goto 19 rfl dX10_leastBits_76 ?_
            first | (exfalso; omega) | exact ih (by omega) _ _ _ _ _ (or_lt hbt (by omega)) ⟨by omega, by omega⟩ ⟨by omega, by omega⟩ (by omega) (by rw [← hX, lbG, if_pos (by omega), ez, r6.1]; rfl) | exact ih (by omega) _ _ _ _ _ hbt ⟨by omega, by omega⟩ ⟨by omega, by omega⟩ (by omega) (by rw [← hX, lbG, if_neg (by omega)])
          · refine R_iload 41 rfl dX10_leastBits_39 rfl ?_
            refine R_iload 43 rfl dX10_leastBits_41 rfl ?_
            refine R_icmp_le 46 73 rfl rfl dX10_leastBits_43 ⟨by omega, by omega⟩ ⟨by omega, by omega⟩ (fun h43 => ?_) (fun h43 => ?_)
            · refine R_iinc [_, _, _, _, _, _, _, _] 76 rfl dX10_leastBits_73 rfl rfl (by decide) ?_
              refine R_goto 19 rfl dX10_leastBits_76 ?_
              first | (exfalso; omega) | exact ih (by omega) _ _ _ _ _ (or_lt hbt (by omega)) ⟨by omega, by omega⟩ ⟨by omega, by omega⟩ (by omega) (by rw [← hX, lbG, if_pos (by omega), ez, r6.1]; rfl) | exact ih (by omega) _ _ _ _ _ hbt ⟨by omega, by omega⟩ ⟨by omega, by omega⟩ (by omega) (by rw [← hX, lbG, if_neg (by omega)])
            · refine R_iload_n 47 rfl dX10_leastBits_46 rfl ?_
              refine R_iconst 48 rfl dX10_leastBits_47 ?_
              refine R_iload 50 rfl dX10_leastBits_48 rfl ?_
              refine R_ishl 51 rfl dX10_leastBits_50 (by omega) (by omega) ?_
              refine R_iorB 52 rfl dX10_leastBits_51 ?_
              refine R_istore_n [_, _, _, _, _, _, _, _] 53 rfl dX10_leastBits_52 rfl (by decide) ?_
              refine R_iinc [_, _, _, _, _, _, _, _] 56 rfl dX10_leastBits_53 rfl rfl (by decide) ?_
              refine R_iload 58 rfl dX10_leastBits_56 rfl ?_
              refine R_aload_n 59 rfl dX10_leastBits_58 rfl ?_
              refine R_getP 2 62 rfl dX10_leastBits_59 rfl rfl fl_X10_26 (PO_o hPO) ?_
              refine R_getP 8 65 rfl dX10_leastBits_62 rfl rfl fl_X10_157 (hP _ _ _ rfl) ?_
              refine R_iconst 66 rfl dX10_leastBits_65 ?_
              refine R_aald 0 67 rfl dX10_leastBits_66 rfl rfl (by first | rfl | omega) (by decide) (by decide) (hP _ _ _ rfl) ?_
              refine R_iload 69 rfl dX10_leastBits_67 rfl ?_
              refine R_iald j 70 rfl dX10_leastBits_69 rfl (by first | rfl | omega) (by omega) (by decide) ?_
              refine R_isub 71 rfl dX10_leastBits_70 ?_
              refine R_istore [_, _, _, _, _, _, _, _] 73 rfl dX10_leastBits_71 rfl (by decide) ?_
              refine R_iinc [_, _, _, _, _, _, _, _] 76 rfl dX10_leastBits_73 rfl rfl (by decide) ?_
              refine R_goto 19 rfl dX10_leastBits_76 ?_
              first | (exfalso; omega) | exact ih (by omega) _ _ _ _ _ (or_lt hbt (by omega)) ⟨by omega, by omega⟩ ⟨by omega, by omega⟩ (by omega) (by rw [← hX, lbG, if_pos (by omega), ez, r6.1]; rfl) | exact ih (by omega) _ _ _ _ _ hbt ⟨by omega, by omega⟩ ⟨by omega, by omega⟩ (by omega) (by rw [← hX, lbG, if_neg (by omega)])
  rcases hL with ⟨rfl, hL⟩ | ⟨rfl, hL⟩
  all_goals
    have h2 := hL.1
    refine R_iconst 1 rfl dX10_leastBits_0 ?_
    refine R_istore_n [_, _, _, _, _, _, _, _] 2 rfl dX10_leastBits_1 rfl (by decide) ?_
    refine R_iload_n 3 rfl dX10_leastBits_2 rfl ?_
    refine R_istore [_, _, _, _, _, _, _, _] 5 rfl dX10_leastBits_3 rfl (by decide) ?_
    refine R_iload_n 6 rfl dX10_leastBits_5 rfl ?_
    refine R_istore [_, _, _, _, _, _, _, _] 8 rfl dX10_leastBits_6 rfl (by decide) ?_
    refine R_aload_n 9 rfl dX10_leastBits_8 rfl ?_
    refine R_getP 2 12 rfl dX10_leastBits_9 rfl rfl fl_X10_26 (PO_o hPO) ?_
    refine R_getI 0 15 rfl dX10_leastBits_12 rfl rfl fl_X10_125 ?_
    refine R_iconst 16 rfl dX10_leastBits_15 ?_
    refine R_isub 17 rfl dX10_leastBits_16 ?_
    refine R_istore [_, _, _, _, _, _, _, _] 19 rfl dX10_leastBits_17 rfl (by decide) ?_
    exact Lp (npN L) (by omega) 0 _ _ _ _ (by omega) ⟨by omega, by omega⟩ ⟨by omega, by omega⟩ (by omega) rfl
end
