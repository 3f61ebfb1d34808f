def we (mk : Nat → Int) (g : Nat) : Int := if mk g = 0 then 1 else mk g
def weD (mk : Nat → Int) : Int := we mk 3 * we mk 2 * we mk 1 * we mk 0
def weQ (mk : Nat → Int) : Nat → Int
  | 0 => we mk 3 * we mk 2 * we mk 1
  | 1 => we mk 3 * we mk 2 * we mk 0
  | 2 => we mk 3 * we mk 1 * we mk 0
  | _ => we mk 2 * we mk 1 * we mk 0
def weN (mk ab : Nat → Int) : Nat → Int
  | 0 => 0
  | 1 => 0 + ab 3 * weQ mk 3
  | 2 => 0 + ab 3 * weQ mk 3 + -ab 2 * weQ mk 2
  | 3 => 0 + ab 3 * weQ mk 3 + -ab 2 * weQ mk 2 + -ab 1 * weQ mk 1
  | _ => 0 + ab 3 * weQ mk 3 + -ab 2 * weQ mk 2 + -ab 1 * weQ mk 1 + ab 0 * weQ mk 0
theorem weD_q (mk : Nat → Int) : ∀ g, g < 4 → weD mk = we mk g * weQ mk g
  | 0, _ => by show we mk 3 * we mk 2 * we mk 1 * we mk 0 = we mk 0 * (we mk 3 * we mk 2 * we mk 1); ac_rfl
  | 1, _ => by show we mk 3 * we mk 2 * we mk 1 * we mk 0 = we mk 1 * (we mk 3 * we mk 2 * we mk 0); ac_rfl
  | 2, _ => by show we mk 3 * we mk 2 * we mk 1 * we mk 0 = we mk 2 * (we mk 3 * we mk 1 * we mk 0); ac_rfl
  | 3, _ => by show we mk 3 * we mk 2 * we mk 1 * we mk 0 = we mk 3 * (we mk 2 * we mk 1 * we mk 0); ac_rfl
  | _ + 4, h => absurd h (by omega)
theorem we_rg {mk : Nat → Int} {g : Nat} (h : 0 ≤ mk g ∧ mk g ≤ 80) : 0 < we mk g ∧ we mk g ≤ 80 := by unfold we; split <;> omega
theorem we_bd {mk ab : Nat → Int} (h : ∀ g, 0 ≤ mk g ∧ mk g ≤ 80 ∧ 0 ≤ ab g ∧ ab g ≤ 80) : (0 < weD mk ∧ weD mk ≤ 40960000) ∧ ∀ g, (0 < weQ mk g ∧ weQ mk g ≤ 512000) ∧ (0 ≤ ab g * weQ mk g ∧ ab g * weQ mk g ≤ 40960000) := by
  have w0 := we_rg (mk := mk) (g := 0) ⟨(h 0).1, (h 0).2.1⟩
  have w1 := we_rg (mk := mk) (g := 1) ⟨(h 1).1, (h 1).2.1⟩
  have w2 := we_rg (mk := mk) (g := 2) ⟨(h 2).1, (h 2).2.1⟩
  have w3 := we_rg (mk := mk) (g := 3) ⟨(h 3).1, (h 3).2.1⟩
  have q0 := w_bd w3 w2 w1
  have q1 := w_bd w3 w2 w0
  have q2 := w_bd w3 w1 w0
  have q3 := w_bd w2 w1 w0
  have key : ∀ g, 0 < weQ mk g ∧ weQ mk g ≤ 512000 := by
    intro g
    match g with
    | 0 => exact q0
    | 1 => exact q1
    | 2 => exact q2
    | _ + 3 => exact q3
  refine ⟨?_, fun g => ⟨key g, w_t ⟨(h g).2.2.1, (h g).2.2.2⟩ (key g)⟩⟩
  have k3 := key 3
  rw [weD_q mk 3 (by omega)]
  have := w_t (t := we mk 3) ⟨by omega, w3.2⟩ k3
  have p := Int.mul_pos w3.1 k3.1
  omega
theorem weN_rg {mk ab : Nat → Int} (h : ∀ g, 0 ≤ mk g ∧ mk g ≤ 80 ∧ 0 ≤ ab g ∧ ab g ≤ 80) : ∀ q, -200000000 ≤ weN mk ab q ∧ weN mk ab q ≤ 200000000 := by
  have d := (we_bd h).2
  have d0 := (d 0).2
  have d1 := (d 1).2
  have d2 := (d 2).2
  have d3 := (d 3).2
  intro q
  match q with
  | 0 => exact ⟨by show -200000000 ≤ (0 : Int); decide, by show (0 : Int) ≤ 200000000; decide⟩
  | 1 => show -200000000 ≤ 0 + ab 3 * weQ mk 3 ∧ 0 + ab 3 * weQ mk 3 ≤ 200000000; omega
  | 2 => show -200000000 ≤ 0 + ab 3 * weQ mk 3 + -ab 2 * weQ mk 2 ∧ 0 + ab 3 * weQ mk 3 + -ab 2 * weQ mk 2 ≤ 200000000; rw [Int.neg_mul]; omega
  | 3 => show -200000000 ≤ 0 + ab 3 * weQ mk 3 + -ab 2 * weQ mk 2 + -ab 1 * weQ mk 1 ∧ 0 + ab 3 * weQ mk 3 + -ab 2 * weQ mk 2 + -ab 1 * weQ mk 1 ≤ 200000000; rw [Int.neg_mul, Int.neg_mul]; omega
  | _ + 4 => show -200000000 ≤ 0 + ab 3 * weQ mk 3 + -ab 2 * weQ mk 2 + -ab 1 * weQ mk 1 + ab 0 * weQ mk 0 ∧ 0 + ab 3 * weQ mk 3 + -ab 2 * weQ mk 2 + -ab 1 * weQ mk 1 + ab 0 * weQ mk 0 ≤ 200000000; rw [Int.neg_mul, Int.neg_mul]; omega
theorem we_all {mk ab : Nat → Int} (h : mk 0 ≠ 0 ∧ mk 1 ≠ 0 ∧ mk 2 ≠ 0 ∧ mk 3 ≠ 0) : weN mk ab 4 = wN mk ab ∧ weD mk = wD mk := by
  have e0 : we mk 0 = mk 0 := if_neg h.1
  have e1 : we mk 1 = mk 1 := if_neg h.2.1
  have e2 : we mk 2 = mk 2 := if_neg h.2.2.1
  have e3 : we mk 3 = mk 3 := if_neg h.2.2.2
  refine ⟨?_, ?_⟩
  · show 0 + ab 3 * (we mk 2 * we mk 1 * we mk 0) + -ab 2 * (we mk 3 * we mk 1 * we mk 0) + -ab 1 * (we mk 3 * we mk 2 * we mk 0) + ab 0 * (we mk 3 * we mk 2 * we mk 1) = wN mk ab
    rw [e0, e1, e2, e3, Int.zero_add]
    rfl
  · show we mk 3 * we mk 2 * we mk 1 * we mk 0 = wD mk
    rw [e0, e1, e2, e3]
    rfl
theorem qtP_iff2 {L : Ld} {B : Bk} {ch : Cs} {kn g k : Nat} {yr : Int} : qtP L B ch kn yr g k = true ↔ (inC B ch 0 k = true ∧ qtG L B kn yr k = (g : Int)) := by simp [qtP]
theorem qtQ_iff2 {L : Ld} {B : Bk} {ch : Cs} {kn g k : Nat} {yr : Int} : qtQ L B ch kn yr g k = true ↔ (qtP L B ch kn yr g k = true ∧ abl L B k = true) := by simp [qtQ]
theorem qt_ab (L : Ld) (B : Bk) (ch : Cs) (kn : Nat) (yr : Int) (g : Nat) : qtB L B ch kn yr g ≤ qtM L B ch kn yr g := by
  unfold qtB qtM
  have : cnt (qtQ L B ch kn yr g) (2 * B.1) ≤ cnt (qtP L B ch kn yr g) (2 * B.1) := cnt_mono (fun k _ q => (qtQ_iff2.mp q).1)
  omega
section
variable {Γ : GX} {m m' : Mem} {B B' : Bk} {L : Ld} {ch ch' : Cs}
/-- the state of the four rounds -/
def wI (L : Ld) (B : Bk) (ch : Cs) (m m1 : Mem) (mk ab : Nat → Int) (q : Nat) (nb : Int) : Prop := Fm m m1 ∧ RZ L B ch m1 ∧ RtM m1 (weN mk ab q) (weD mk) ∧ (nb = 0 ∨ nb = 1) ∧ (nb = 0 → (0 < q → mk 3 ≠ 0) ∧ (1 < q → mk 2 ≠ 0) ∧ (2 < q → mk 1 ≠ 0) ∧ (3 < q → mk 0 ≠ 0)) ∧ (nb = 1 → mk 0 = 0 ∨ mk 1 = 0 ∨ mk 2 = 0 ∨ mk 3 = 0)
theorem w_4 (kn yr w nb : Int) (m1 : Mem) {x6 x8 x10 x11 x12 x13 : Option AV} {x7 x9 : Option AV} (hR : RS L B ch m) (ho : (0 ≤ kn ∧ kn ≤ 1) ∧ (0 ≤ yr ∧ yr ≤ 89) ∧ (0 ≤ w ∧ w ≤ 1)) (hI : wI L B ch m m1 (qtM L B ch kn.toNat yr) (qtB L B ch kn.toNat yr) 4 nb) : R Γ mX11_worth { frames := 7, cells := 0, slots := 0, locals := 280 } 0 0 (QM L B ch m (a_worth L B ch kn yr w)) 0 0 50 [some (vr 96), some (vi kn), some (vi yr), some (vi w), some (vi nb), some (vi 4), x6, x7, x8, x9, x10, x11, x12, x13] [] SH m1 := by
  obtain ⟨hf, hZ, hr, n01, n0, n1⟩ := hI
  refine R_iload 52 rfl dX11_worth_50 rfl ?_
  refine R_iconst 53 rfl dX11_worth_52 ?_
  refine R_icmp_ge 56 282 rfl rfl dX11_worth_53 (by first | assumption | exact ⟨by omega, by omega⟩) (by first | assumption | exact ⟨by omega, by omega⟩) (fun h53 => ?_) (fun h53 => ?_)
  rotate_left
  · exact absurd h53 (by omega)
  refine R_iload 284 rfl dX11_worth_282 rfl ?_
  refine R_if_eq 287 293 rfl rfl dX11_worth_284 (by first | assumption | exact ⟨by omega, by omega⟩) (fun h284 => ?_) (fun h284 => ?_)
  · refine R_iload_n 294 rfl dX11_worth_293 rfl ?_
    refine R_if_ne 297 304 rfl rfl dX11_worth_294 (by first | assumption | exact ⟨by omega, by omega⟩) (fun h294 => ?_) (fun h294 => ?_)
    · refine R_aload_n 305 rfl dX11_worth_304 rfl ?_
      refine R_getL 29 308 rfl dX11_worth_305 rfl rfl fl_X11_291 ?_
      refine R_l2i 309 rfl dX11_worth_308 ?_
      refine R_ireturn dX11_worth_309 rfl ?_
      first
        | (refine QI_mk ⟨?_, hf, hZ.1⟩
           unfold a_worth wth
           rw [if_pos ho, if_pos (n1 (by omega))])
        | (have k := n0 (by omega)
           have k2 : (qtM L B ch kn.toNat yr) 0 ≠ 0 ∧ (qtM L B ch kn.toNat yr) 1 ≠ 0 ∧ (qtM L B ch kn.toNat yr) 2 ≠ 0 ∧ (qtM L B ch kn.toNat yr) 3 ≠ 0 := ⟨k.2.2.2 (by decide), k.2.2.1 (by decide), k.2.1 (by decide), k.1 (by decide)⟩
           have e := we_all (ab := qtB L B ch kn.toNat yr) k2
           rw [e.1, e.2] at hr
           refine QI_mk ⟨Eq.symm ?_, hf, hZ.1⟩
           rw [a_worth, wth, if_pos ho, if_neg (by omega)]
           first
             | (rw [if_pos (by omega)]; exact hr.1.symm)
             | (rw [if_neg (by omega)]; exact hr.2.symm))
    · refine R_aload_n 298 rfl dX11_worth_297 rfl ?_
      refine R_getL 28 301 rfl dX11_worth_298 rfl rfl fl_X11_287 ?_
      refine R_goto 308 rfl dX11_worth_301 ?_
      refine R_l2i 309 rfl dX11_worth_308 ?_
      refine R_ireturn dX11_worth_309 rfl ?_
      first
        | (refine QI_mk ⟨?_, hf, hZ.1⟩
           unfold a_worth wth
           rw [if_pos ho, if_pos (n1 (by omega))])
        | (have k := n0 (by omega)
           have k2 : (qtM L B ch kn.toNat yr) 0 ≠ 0 ∧ (qtM L B ch kn.toNat yr) 1 ≠ 0 ∧ (qtM L B ch kn.toNat yr) 2 ≠ 0 ∧ (qtM L B ch kn.toNat yr) 3 ≠ 0 := ⟨k.2.2.2 (by decide), k.2.2.1 (by decide), k.2.1 (by decide), k.1 (by decide)⟩
           have e := we_all (ab := qtB L B ch kn.toNat yr) k2
           rw [e.1, e.2] at hr
           refine QI_mk ⟨Eq.symm ?_, hf, hZ.1⟩
           rw [a_worth, wth, if_pos ho, if_neg (by omega)]
           first
             | (rw [if_pos (by omega)]; exact hr.1.symm)
             | (rw [if_neg (by omega)]; exact hr.2.symm))
  · refine R_ldcw (-1000004) 290 rfl dX11_worth_287 kc_X11_317 (by decide) ?_
    refine R_goto 309 rfl dX11_worth_290 ?_
    refine R_ireturn dX11_worth_309 rfl ?_
    first
      | (refine QI_mk ⟨?_, hf, hZ.1⟩
         unfold a_worth wth
         rw [if_pos ho, if_pos (n1 (by omega))])
      | (have k := n0 (by omega)
         have k2 : (qtM L B ch kn.toNat yr) 0 ≠ 0 ∧ (qtM L B ch kn.toNat yr) 1 ≠ 0 ∧ (qtM L B ch kn.toNat yr) 2 ≠ 0 ∧ (qtM L B ch kn.toNat yr) 3 ≠ 0 := ⟨k.2.2.2 (by decide), k.2.2.1 (by decide), k.2.1 (by decide), k.1 (by decide)⟩
         have e := we_all (ab := qtB L B ch kn.toNat yr) k2
         rw [e.1, e.2] at hr
         refine QI_mk ⟨Eq.symm ?_, hf, hZ.1⟩
         rw [a_worth, wth, if_pos ho, if_neg (by omega)]
         first
           | (rw [if_pos (by omega)]; exact hr.1.symm)
           | (rw [if_neg (by omega)]; exact hr.2.symm))
set_option maxHeartbeats 2000000 in
theorem w_3 (kn yr w nb : Int) (m1 : Mem) {x6 x8 x10 x11 x12 x13 : Option AV} {x7 x9 : Option AV} (hR : RS L B ch m) (ho : (0 ≤ kn ∧ kn ≤ 1) ∧ (0 ≤ yr ∧ yr ≤ 89) ∧ (0 ≤ w ∧ w ≤ 1)) (hI : wI L B ch m m1 (qtM L B ch kn.toNat yr) (qtB L B ch kn.toNat yr) 3 nb) : R Γ mX11_worth { frames := 7, cells := 0, slots := 0, locals := 280 } 0 0 (QM L B ch m (a_worth L B ch kn yr w)) 0 0 50 [some (vr 96), some (vi kn), some (vi yr), some (vi w), some (vi nb), some (vi 3), x6, x7, x8, x9, x10, x11, x12, x13] [] SH m1 := by
  obtain ⟨hf, hZ, hr, n01, n0, n1⟩ := id hI
  have hO := hR.2.2.2.2.1
  have hb := hO.1
  have hl := hR.2.2.1.1
  have qr := qt_rg L B ch kn.toNat yr hb
  have qa := qt_ab L B ch kn.toNat yr 0
  obtain ⟨d1, d2⟩ := we_bd qr
  have d20 := d2 0
  have d21 := d2 1
  have d22 := d2 2
  have d23 := d2 3
  have hW := hZ.w
  have Li : ∀ k, k ≤ 2 * B.1 → ∀ n c z y11 y12 y13, n = (cnt (qtP L B ch kn.toNat yr 0) k : Int) → c = (cnt (qtQ L B ch kn.toNat yr 0) k : Int) → z = (k : Int) → R Γ mX11_worth { frames := 7, cells := 0, slots := 0, locals := 280 } 0 0 (QM L B ch m (a_worth L B ch kn yr w)) 0 0 65 [some (vr 96), some (vi kn), some (vi yr), some (vi w), some (vi nb), some (vi 3), some (vl n), none, some (vl c), none, some (vi z), y11, y12, y13] [] SH m1 := by
    refine up_ind (2 * B.1) (fun k hk ih n c z y11 y12 y13 hn hc hz => ?_)
    have cl := cnt_le (qtP L B ch kn.toNat yr 0) k
    have cl2 := cnt_le (qtQ L B ch kn.toNat yr 0) k
    refine R_iload 67 rfl dX11_worth_65 rfl ?_
    refine R_iconst 68 rfl dX11_worth_67 ?_
    refine R_aload_n 69 rfl dX11_worth_68 rfl ?_
    refine R_callV_i (M' := mX11_size) 72 rfl dX11_worth_69 ml_X11_150 kmX11_size im_X11_size se_X11_size rfl ⟨by decide, rfl⟩ (c_X11_size hZ.1) rfl rfl ⟨Nat.le_of_ble_eq_true rfl, Nat.le_of_ble_eq_true rfl⟩ (Nat.le_of_ble_eq_true rfl) ⟨Nat.le_of_ble_eq_true rfl, Nat.le_of_ble_eq_true rfl⟩ ?_
    refine R_imul 73 rfl dX11_worth_72 ?_
    refine R_icmp_ge 76 225 rfl rfl dX11_worth_73 (by first | assumption | exact ⟨by omega, by omega⟩) (by first | assumption | exact ⟨by omega, by omega⟩) (fun h73 => ?_) (fun h73 => ?_)
    · have ek : k = 2 * B.1 := by omega
      subst ek
      have en : n = qtM L B ch kn.toNat yr 0 := hn
      have ec : c = qtB L B ch kn.toNat yr 0 := hc
      have ws : weN (qtM L B ch kn.toNat yr) (qtB L B ch kn.toNat yr) 4 = weN (qtM L B ch kn.toNat yr) (qtB L B ch kn.toNat yr) 3 + c * weQ (qtM L B ch kn.toNat yr) 0 := by rw [ec]; rfl
      have wr := weN_rg qr 4
      have qg := qr 0
      refine R_iload 227 rfl dX11_worth_225 rfl ?_
      refine R_if_ne 230 237 rfl rfl dX11_worth_227 (by first | assumption | exact ⟨by omega, by omega⟩) (fun h227 => ?_) (fun h227 => ?_)
      · refine R_iconst 238 rfl dX11_worth_237 ?_
        refine R_goto 242 rfl dX11_worth_238 ?_
        refine R_istore [_, _, _, _, _, _, _, _, _, _, _, _, _, _] 244 rfl dX11_worth_242 rfl (by decide) ?_
        refine R_lload 246 rfl dX11_worth_244 rfl ?_
        refine R_lconst 247 rfl dX11_worth_246 ?_
        refine R_topL (b := 0) rfl ?_
        refine R_lif_le 248 251 276 rfl rfl rfl dX11_worth_247 dX11_worth_248 (by first | assumption | exact ⟨by omega, by omega⟩ | exact rg_L (by assumption)) (by first | assumption | exact ⟨by omega, by omega⟩ | exact rg_L (by assumption)) (fun h248 => ?_) (fun h248 => ?_)
        · refine R_iinc [_, _, _, _, _, _, _, _, _, _, _, _, _, _] 279 rfl dX11_worth_276 rfl rfl (by decide) ?_
          refine R_goto 50 rfl dX11_worth_279 ?_
          first
            | (exfalso; omega)
            | (refine w_4 kn yr w _ _ hR ho ⟨hf.tr f273.m, f273.z hZ, ?_, by omega, ?_, ?_⟩
               · rw [ws]; exact r273
               · intro q; have := n0; omega
               · intro q; have := n1; omega)
            | (refine w_4 kn yr w _ _ hR ho ⟨hf, hZ, ?_, by omega, ?_, ?_⟩
               · have c0 : c = 0 := by omega
                 rw [ws, c0]
                 simpa using hr
               · intro q; have := n0; omega
               · intro q; have := n1; omega)
        · refine R_aload_n 252 rfl dX11_worth_251 rfl ?_
          refine R_iload 254 rfl dX11_worth_252 rfl ?_
          refine R_if_eq 257 263 rfl rfl dX11_worth_254 (by first | assumption | exact ⟨by omega, by omega⟩) (fun h254 => ?_) (fun h254 => ?_)
          · exact absurd h254 (by omega)
          refine R_iload 259 rfl dX11_worth_257 rfl ?_
          refine R_iconst 260 rfl dX11_worth_259 ?_
          refine R_icmp_ne 263 268 rfl rfl dX11_worth_260 (by first | assumption | exact ⟨by omega, by omega⟩) (by first | assumption | exact ⟨by omega, by omega⟩) (fun h260 => ?_) (fun h260 => ?_)
          · exact absurd h260 (by omega)
          refine R_lload 265 rfl dX11_worth_263 rfl ?_
          refine R_goto 271 rfl dX11_worth_265 ?_
          refine R_lload 273 rfl dX11_worth_271 rfl ?_
          refine R_callV_V (M' := mX11_plus) 276 rfl dX11_worth_273 ml_X11_310 kmX11_plus im_X11_plus se_X11_plus rfl ⟨by decide, rfl⟩ (c_X11_plus (weN (qtM L B ch kn.toNat yr) (qtB L B ch kn.toNat yr) 3) (weD (qtM L B ch kn.toNat yr)) _ _ (weQ (qtM L B ch kn.toNat yr) 0) hr ⟨d1.1, by omega⟩ (by omega) (by rw [en, weD_q _ 0 (by omega), we, if_neg (by omega)]) ⟨by omega, by omega⟩ (by rw [← ws]; exact ⟨by omega, by omega⟩)) rfl rfl ⟨Nat.le_of_ble_eq_true rfl, Nat.le_of_ble_eq_true rfl⟩ (Nat.le_of_ble_eq_true rfl) ⟨Nat.le_of_ble_eq_true rfl, Nat.le_of_ble_eq_true rfl⟩ ?_
          rintro m273 h273
          obtain ⟨f273, r273⟩ := h273
          refine R_iinc [_, _, _, _, _, _, _, _, _, _, _, _, _, _] 279 rfl dX11_worth_276 rfl rfl (by decide) ?_
          refine R_goto 50 rfl dX11_worth_279 ?_
          first
            | (exfalso; omega)
            | (refine w_4 kn yr w _ _ hR ho ⟨hf.tr f273.m, f273.z hZ, ?_, by omega, ?_, ?_⟩
               · rw [ws]; exact r273
               · intro q; have := n0; omega
               · intro q; have := n1; omega)
            | (refine w_4 kn yr w _ _ hR ho ⟨hf, hZ, ?_, by omega, ?_, ?_⟩
               · have c0 : c = 0 := by omega
                 rw [ws, c0]
                 simpa using hr
               · intro q; have := n0; omega
               · intro q; have := n1; omega)
      · refine R_lload 232 rfl dX11_worth_230 rfl ?_
        refine R_lconst 233 rfl dX11_worth_232 ?_
        refine R_topL (b := 0) rfl ?_
        refine R_lif_ne 234 237 241 rfl rfl rfl dX11_worth_233 dX11_worth_234 (by first | assumption | exact ⟨by omega, by omega⟩ | exact rg_L (by assumption)) (by first | assumption | exact ⟨by omega, by omega⟩ | exact rg_L (by assumption)) (fun h234 => ?_) (fun h234 => ?_)
        · refine R_iconst 242 rfl dX11_worth_241 ?_
          refine R_istore [_, _, _, _, _, _, _, _, _, _, _, _, _, _] 244 rfl dX11_worth_242 rfl (by decide) ?_
          refine R_lload 246 rfl dX11_worth_244 rfl ?_
          refine R_lconst 247 rfl dX11_worth_246 ?_
          refine R_topL (b := 0) rfl ?_
          refine R_lif_le 248 251 276 rfl rfl rfl dX11_worth_247 dX11_worth_248 (by first | assumption | exact ⟨by omega, by omega⟩ | exact rg_L (by assumption)) (by first | assumption | exact ⟨by omega, by omega⟩ | exact rg_L (by assumption)) (fun h248 => ?_) (fun h248 => ?_)
          · refine R_iinc [_, _, _, _, _, _, _, _, _, _, _, _, _, _] 279 rfl dX11_worth_276 rfl rfl (by decide) ?_
            refine R_goto 50 rfl dX11_worth_279 ?_
            first
              | (exfalso; omega)
              | (refine w_4 kn yr w _ _ hR ho ⟨hf.tr f273.m, f273.z hZ, ?_, by omega, ?_, ?_⟩
                 · rw [ws]; exact r273
                 · intro q; have := n0; omega
                 · intro q; have := n1; omega)
              | (refine w_4 kn yr w _ _ hR ho ⟨hf, hZ, ?_, by omega, ?_, ?_⟩
                 · have c0 : c = 0 := by omega
                   rw [ws, c0]
                   simpa using hr
                 · intro q; have := n0; omega
                 · intro q; have := n1; omega)
          · refine R_aload_n 252 rfl dX11_worth_251 rfl ?_
            refine R_iload 254 rfl dX11_worth_252 rfl ?_
            refine R_if_eq 257 263 rfl rfl dX11_worth_254 (by first | assumption | exact ⟨by omega, by omega⟩) (fun h254 => ?_) (fun h254 => ?_)
            · exact absurd h254 (by omega)
            refine R_iload 259 rfl dX11_worth_257 rfl ?_
            refine R_iconst 260 rfl dX11_worth_259 ?_
            refine R_icmp_ne 263 268 rfl rfl dX11_worth_260 (by first | assumption | exact ⟨by omega, by omega⟩) (by first | assumption | exact ⟨by omega, by omega⟩) (fun h260 => ?_) (fun h260 => ?_)
            · exact absurd h260 (by omega)
            refine R_lload 265 rfl dX11_worth_263 rfl ?_
            refine R_goto 271 rfl dX11_worth_265 ?_
            refine R_lload 273 rfl dX11_worth_271 rfl ?_
            refine R_callV_V (M' := mX11_plus) 276 rfl dX11_worth_273 ml_X11_310 kmX11_plus im_X11_plus se_X11_plus rfl ⟨by decide, rfl⟩ (c_X11_plus (weN (qtM L B ch kn.toNat yr) (qtB L B ch kn.toNat yr) 3) (weD (qtM L B ch kn.toNat yr)) _ _ (weQ (qtM L B ch kn.toNat yr) 0) hr ⟨d1.1, by omega⟩ (by omega) (by rw [en, weD_q _ 0 (by omega), we, if_neg (by omega)]) ⟨by omega, by omega⟩ (by rw [← ws]; exact ⟨by omega, by omega⟩)) rfl rfl ⟨Nat.le_of_ble_eq_true rfl, Nat.le_of_ble_eq_true rfl⟩ (Nat.le_of_ble_eq_true rfl) ⟨Nat.le_of_ble_eq_true rfl, Nat.le_of_ble_eq_true rfl⟩ ?_
            rintro m273 h273
            obtain ⟨f273, r273⟩ := h273
            refine R_iinc [_, _, _, _, _, _, _, _, _, _, _, _, _, _] 279 rfl dX11_worth_276 rfl rfl (by decide) ?_
            refine R_goto 50 rfl dX11_worth_279 ?_
            first
              | (exfalso; omega)
              | (refine w_4 kn yr w _ _ hR ho ⟨hf.tr f273.m, f273.z hZ, ?_, by omega, ?_, ?_⟩
                 · rw [ws]; exact r273
                 · intro q; have := n0; omega
                 · intro q; have := n1; omega)
              | (refine w_4 kn yr w _ _ hR ho ⟨hf, hZ, ?_, by omega, ?_, ?_⟩
                 · have c0 : c = 0 := by omega
                   rw [ws, c0]
                   simpa using hr
                 · intro q; have := n0; omega
                 · intro q; have := n1; omega)
        · refine R_iconst 238 rfl dX11_worth_237 ?_
          refine R_goto 242 rfl dX11_worth_238 ?_
          refine R_istore [_, _, _, _, _, _, _, _, _, _, _, _, _, _] 244 rfl dX11_worth_242 rfl (by decide) ?_
          refine R_lload 246 rfl dX11_worth_244 rfl ?_
          refine R_lconst 247 rfl dX11_worth_246 ?_
          refine R_topL (b := 0) rfl ?_
          refine R_lif_le 248 251 276 rfl rfl rfl dX11_worth_247 dX11_worth_248 (by first | assumption | exact ⟨by omega, by omega⟩ | exact rg_L (by assumption)) (by first | assumption | exact ⟨by omega, by omega⟩ | exact rg_L (by assumption)) (fun h248 => ?_) (fun h248 => ?_)
          · refine R_iinc [_, _, _, _, _, _, _, _, _, _, _, _, _, _] 279 rfl dX11_worth_276 rfl rfl (by decide) ?_
            refine R_goto 50 rfl dX11_worth_279 ?_
            first
              | (exfalso; omega)
              | (refine w_4 kn yr w _ _ hR ho ⟨hf.tr f273.m, f273.z hZ, ?_, by omega, ?_, ?_⟩
                 · rw [ws]; exact r273
                 · intro q; have := n0; omega
                 · intro q; have := n1; omega)
              | (refine w_4 kn yr w _ _ hR ho ⟨hf, hZ, ?_, by omega, ?_, ?_⟩
                 · have c0 : c = 0 := by omega
                   rw [ws, c0]
                   simpa using hr
                 · intro q; have := n0; omega
                 · intro q; have := n1; omega)
          · refine R_aload_n 252 rfl dX11_worth_251 rfl ?_
            refine R_iload 254 rfl dX11_worth_252 rfl ?_
            refine R_if_eq 257 263 rfl rfl dX11_worth_254 (by first | assumption | exact ⟨by omega, by omega⟩) (fun h254 => ?_) (fun h254 => ?_)
            · exact absurd h254 (by omega)
            refine R_iload 259 rfl dX11_worth_257 rfl ?_
            refine R_iconst 260 rfl dX11_worth_259 ?_
            refine R_icmp_ne 263 268 rfl rfl dX11_worth_260 (by first | assumption | exact ⟨by omega, by omega⟩) (by first | assumption | exact ⟨by omega, by omega⟩) (fun h260 => ?_) (fun h260 => ?_)
            · exact absurd h260 (by omega)
            refine R_lload 265 rfl dX11_worth_263 rfl ?_
            refine R_goto 271 rfl dX11_worth_265 ?_
            refine R_lload 273 rfl dX11_worth_271 rfl ?_
            refine R_callV_V (M' := mX11_plus) 276 rfl dX11_worth_273 ml_X11_310 kmX11_plus im_X11_plus se_X11_plus rfl ⟨by decide, rfl⟩ (c_X11_plus (weN (qtM L B ch kn.toNat yr) (qtB L B ch kn.toNat yr) 3) (weD (qtM L B ch kn.toNat yr)) _ _ (weQ (qtM L B ch kn.toNat yr) 0) hr ⟨d1.1, by omega⟩ (by omega) (by rw [en, weD_q _ 0 (by omega), we, if_neg (by omega)]) ⟨by omega, by omega⟩ (by rw [← ws]; exact ⟨by omega, by omega⟩)) rfl rfl ⟨Nat.le_of_ble_eq_true rfl, Nat.le_of_ble_eq_true rfl⟩ (Nat.le_of_ble_eq_true rfl) ⟨Nat.le_of_ble_eq_true rfl, Nat.le_of_ble_eq_true rfl⟩ ?_
            rintro m273 h273
            obtain ⟨f273, r273⟩ := h273
            refine R_iinc [_, _, _, _, _, _, _, _, _, _, _, _, _, _] 279 rfl dX11_worth_276 rfl rfl (by decide) ?_
            refine R_goto 50 rfl dX11_worth_279 ?_
            first
              | (exfalso; omega)
              | (refine w_4 kn yr w _ _ hR ho ⟨hf.tr f273.m, f273.z hZ, ?_, by omega, ?_, ?_⟩
                 · rw [ws]; exact r273
                 · intro q; have := n0; omega
                 · intro q; have := n1; omega)
              | (refine w_4 kn yr w _ _ hR ho ⟨hf, hZ, ?_, by omega, ?_, ?_⟩
                 · have c0 : c = 0 := by omega
                   rw [ws, c0]
                   simpa using hr
                 · intro q; have := n0; omega
                 · intro q; have := n1; omega)
    · have g4 := hO.2.1 (k / 2) (by omega)
      have p4 := hR.2.2.1.2.2.1 (B.2.1 0 (k / 2)).toNat (by omega)
      have e1 := qtP_iff2 (L := L) (B := B) (ch := ch) (kn := kn.toNat) (g := 0) (k := k) (yr := yr)
      have e2 := qtQ_iff2 (L := L) (B := B) (ch := ch) (kn := kn.toNat) (g := 0) (k := k) (yr := yr)
      have c1 := cnt_pI (qtP L B ch kn.toNat yr 0) k
      have c2 := cnt_pI (qtQ L B ch kn.toNat yr 0) k
      have sr : L.2.1 (2 + kn.toNat) (B.2.1 0 (k / 2)).toNat = -4 ∨ (0 ≤ L.2.1 (2 + kn.toNat) (B.2.1 0 (k / 2)).toNat ∧ L.2.1 (2 + kn.toNat) (B.2.1 0 (k / 2)).toNat ≤ 89) := by
        rcases (show kn.toNat = 0 ∨ kn.toNat = 1 by omega) with q | q
        · rw [q]; exact p4.2.2.2.1
        · rw [q]; exact p4.2.2.2.2
      have qg : (0 ≤ L.2.1 (2 + kn.toNat) (B.2.1 0 (k / 2)).toNat ∧ L.2.1 (2 + kn.toNat) (B.2.1 0 (k / 2)).toNat ≤ yr ∧ yr ≤ B.2.1 1 (k / 2) → qtG L B kn.toNat yr k = 3) ∧ (0 ≤ L.2.1 (2 + kn.toNat) (B.2.1 0 (k / 2)).toNat ∧ L.2.1 (2 + kn.toNat) (B.2.1 0 (k / 2)).toNat ≤ yr ∧ ¬ yr ≤ B.2.1 1 (k / 2) → qtG L B kn.toNat yr k = 2) ∧ (¬ (0 ≤ L.2.1 (2 + kn.toNat) (B.2.1 0 (k / 2)).toNat ∧ L.2.1 (2 + kn.toNat) (B.2.1 0 (k / 2)).toNat ≤ yr) ∧ yr ≤ B.2.1 1 (k / 2) → qtG L B kn.toNat yr k = 1) ∧ (¬ (0 ≤ L.2.1 (2 + kn.toNat) (B.2.1 0 (k / 2)).toNat ∧ L.2.1 (2 + kn.toNat) (B.2.1 0 (k / 2)).toNat ≤ yr) ∧ ¬ yr ≤ B.2.1 1 (k / 2) → qtG L B kn.toNat yr k = 0) := by
        unfold qtG
        refine ⟨fun q => ?_, fun q => ?_, fun q => ?_, fun q => ?_⟩
        · rw [if_pos ⟨q.1, q.2.1⟩, if_pos q.2.2]; rfl
        · rw [if_pos ⟨q.1, q.2.1⟩, if_neg q.2.2]; rfl
        · rw [if_neg q.1, if_pos q.2]; rfl
        · rw [if_neg q.1, if_neg q.2]; rfl
      refine R_aload_n 77 rfl dX11_worth_76 rfl ?_
      refine R_aload_n 78 rfl dX11_worth_77 rfl ?_
      refine R_iload 80 rfl dX11_worth_78 rfl ?_
      refine R_iconst 81 rfl dX11_worth_80 ?_
      refine R_idiv_p 82 rfl dX11_worth_81 (by first | assumption | exact ⟨by omega, by omega⟩) (by first | assumption | exact ⟨by omega, by omega⟩) (by omega) (by omega) ?_
      refine R_iconst 83 rfl dX11_worth_82 ?_
      refine R_callV_i (M' := mX11_its) 86 rfl dX11_worth_83 ml_X11_153 kmX11_its im_X11_its se_X11_its rfl ⟨by decide, rfl⟩ (c_X11_its _ _ (k / 2) 0 hZ.1 (by omega) (by omega) (by omega) (by omega)) rfl rfl ⟨Nat.le_of_ble_eq_true rfl, Nat.le_of_ble_eq_true rfl⟩ (Nat.le_of_ble_eq_true rfl) ⟨Nat.le_of_ble_eq_true rfl, Nat.le_of_ble_eq_true rfl⟩ ?_
      refine R_iconst 87 rfl dX11_worth_86 ?_
      refine R_iload_n 88 rfl dX11_worth_87 rfl ?_
      refine R_iadd 89 rfl dX11_worth_88 ?_
      refine R_callV_i (M' := mX11_parishOf) 92 rfl dX11_worth_89 ml_X11_156 kmX11_parishOf im_X11_parishOf se_X11_parishOf rfl ⟨by decide, rfl⟩ (c_X11_parishOf _ _ (B.2.1 0 (k / 2)).toNat (2 + kn.toNat) hZ.1 (by omega) (by omega) (by omega) (by omega)) rfl rfl ⟨Nat.le_of_ble_eq_true rfl, Nat.le_of_ble_eq_true rfl⟩ (Nat.le_of_ble_eq_true rfl) ⟨Nat.le_of_ble_eq_true rfl, Nat.le_of_ble_eq_true rfl⟩ ?_
      refine R_istore [_, _, _, _, _, _, _, _, _, _, _, _, _, _] 94 rfl dX11_worth_92 rfl (by decide) ?_
      refine R_iload 96 rfl dX11_worth_94 rfl ?_
      refine R_bipush 98 rfl dX11_worth_96 (by decide) ?_
      refine R_icmp_eq 101 111 rfl rfl dX11_worth_98 (by first | assumption | exact ⟨by omega, by omega⟩) (by first | assumption | exact ⟨by omega, by omega⟩) (fun h98 => ?_) (fun h98 => ?_)
      · refine R_iconst 112 rfl dX11_worth_111 ?_
        refine R_istore [_, _, _, _, _, _, _, _, _, _, _, _, _, _] 114 rfl dX11_worth_112 rfl (by decide) ?_
        refine R_aload_n 115 rfl dX11_worth_114 rfl ?_
        refine R_iconst 116 rfl dX11_worth_115 ?_
        refine R_iload 118 rfl dX11_worth_116 rfl ?_
        refine R_callV_i (M' := mX11_isIn) 121 rfl dX11_worth_118 ml_X11_240 kmX11_isIn im_X11_isIn se_X11_isIn rfl ⟨by decide, rfl⟩ (c_X11_isIn _ _ 0 k hW rfl (by decide) (by omega) (by omega)) rfl rfl ⟨Nat.le_of_ble_eq_true rfl, Nat.le_of_ble_eq_true rfl⟩ (Nat.le_of_ble_eq_true rfl) ⟨Nat.le_of_ble_eq_true rfl, Nat.le_of_ble_eq_true rfl⟩ ?_
        refine R_ifp_eq 124 177 rfl rfl dX11_worth_121 (fun h121 => ?_) (fun h121 => ?_)
        · refine R_iconst 178 rfl dX11_worth_177 ?_
          refine R_istore [_, _, _, _, _, _, _, _, _, _, _, _, _, _] 180 rfl dX11_worth_178 rfl (by decide) ?_
          refine R_lload 182 rfl dX11_worth_180 rfl ?_
          refine R_iload 184 rfl dX11_worth_182 rfl ?_
          refine R_if_eq 187 191 rfl rfl dX11_worth_184 (by first | assumption | exact ⟨by omega, by omega⟩) (fun h184 => ?_) (fun h184 => ?_)
          rotate_left
          · exact absurd h184 (by omega)
          refine R_lconst 192 rfl dX11_worth_191 ?_
          refine R_topL (b := 0) rfl ?_
          refine R_ladd 193 rfl dX11_worth_192 ?_
          refine R_lstore [_, _, _, _, _, _, _, _, _, _, _, _, _, _] 195 rfl dX11_worth_193 rfl (by decide) ?_
          refine R_lload 197 rfl dX11_worth_195 rfl ?_
          refine R_iload 199 rfl dX11_worth_197 rfl ?_
          refine R_if_eq 202 215 rfl rfl dX11_worth_199 (by first | assumption | exact ⟨by omega, by omega⟩) (fun h199 => ?_) (fun h199 => ?_)
          rotate_left
          · exact absurd h199 (by omega)
          refine R_lconst 216 rfl dX11_worth_215 ?_
          refine R_topL (b := 0) rfl ?_
          refine R_ladd 217 rfl dX11_worth_216 ?_
          refine R_lstore [_, _, _, _, _, _, _, _, _, _, _, _, _, _] 219 rfl dX11_worth_217 rfl (by decide) ?_
          refine R_iinc [_, _, _, _, _, _, _, _, _, _, _, _, _, _] 222 rfl dX11_worth_219 rfl rfl (by decide) ?_
          refine R_goto 65 rfl dX11_worth_222 ?_
          first
            | (have y1 : qtP L B ch kn.toNat yr 0 k = true := e1.mpr ⟨h121, by omega⟩
               rw [pI_t y1] at c1
               first
                 | (rw [pI_t (e2.mpr ⟨y1, h208⟩)] at c2
                    exact ih (by omega) _ _ _ _ _ _ (by omega) (by omega) (by omega))
                 | (rw [pI_f (fun q => h208 (e2.mp q).2)] at c2
                    exact ih (by omega) _ _ _ _ _ _ (by omega) (by omega) (by omega)))
            | (have y1 : ¬ qtP L B ch kn.toNat yr 0 k = true := fun q => by have q2 := e1.mp q; first | exact h121 q2.1 | (have q3 := q2.2; omega)
               rw [pI_f y1] at c1
               rw [pI_f (fun q => y1 (e2.mp q).1)] at c2
               exact ih (by omega) _ _ _ _ _ _ (by omega) (by omega) (by omega))
        · refine R_iload 126 rfl dX11_worth_124 rfl ?_
          refine R_iload 128 rfl dX11_worth_126 rfl ?_
          refine R_iconst 129 rfl dX11_worth_128 ?_
          refine R_icmp_ge 132 136 rfl rfl dX11_worth_129 (by first | assumption | exact ⟨by omega, by omega⟩) (by first | assumption | exact ⟨by omega, by omega⟩) (fun h129 => ?_) (fun h129 => ?_)
          rotate_left
          · exact absurd h129 (by omega)
          refine R_iconst 137 rfl dX11_worth_136 ?_
          refine R_icmp_ne 140 177 rfl rfl dX11_worth_137 (by first | assumption | exact ⟨by omega, by omega⟩) (by first | assumption | exact ⟨by omega, by omega⟩) (fun h137 => ?_) (fun h137 => ?_)
          · exact absurd h137 (by omega)
          refine R_aload_n 141 rfl dX11_worth_140 rfl ?_
          refine R_iload 143 rfl dX11_worth_141 rfl ?_
          refine R_iconst 144 rfl dX11_worth_143 ?_
          refine R_idiv_p 145 rfl dX11_worth_144 (by first | assumption | exact ⟨by omega, by omega⟩) (by first | assumption | exact ⟨by omega, by omega⟩) (by omega) (by omega) ?_
          refine R_iconst 146 rfl dX11_worth_145 ?_
          refine R_callV_i (M' := mX11_its) 149 rfl dX11_worth_146 ml_X11_153 kmX11_its im_X11_its se_X11_its rfl ⟨by decide, rfl⟩ (c_X11_its _ _ (k / 2) 1 hZ.1 (by omega) (by omega) (by omega) (by omega)) rfl rfl ⟨Nat.le_of_ble_eq_true rfl, Nat.le_of_ble_eq_true rfl⟩ (Nat.le_of_ble_eq_true rfl) ⟨Nat.le_of_ble_eq_true rfl, Nat.le_of_ble_eq_true rfl⟩ ?_
          refine R_iload_n 150 rfl dX11_worth_149 rfl ?_
          refine R_icmp_lt 153 157 rfl rfl dX11_worth_150 (by first | assumption | exact ⟨by omega, by omega⟩) (by first | assumption | exact ⟨by omega, by omega⟩) (fun h150 => ?_) (fun h150 => ?_)
          · refine R_iconst 158 rfl dX11_worth_157 ?_
            refine R_iload 160 rfl dX11_worth_158 rfl ?_
            refine R_iconst 161 rfl dX11_worth_160 ?_
            refine R_irem_p 162 rfl dX11_worth_161 (by first | assumption | exact ⟨by omega, by omega⟩) (by first | assumption | exact ⟨by omega, by omega⟩) (by omega) (by omega) ?_
            refine R_if_ne 165 169 rfl rfl dX11_worth_162 (by first | assumption | exact ⟨by omega, by omega⟩) (fun h162 => ?_) (fun h162 => ?_)
            rotate_left
            · exact absurd h162 (by omega)
            refine R_iconst 170 rfl dX11_worth_169 ?_
            refine R_icmp_ne 173 177 rfl rfl dX11_worth_170 (by first | assumption | exact ⟨by omega, by omega⟩) (by first | assumption | exact ⟨by omega, by omega⟩) (fun h170 => ?_) (fun h170 => ?_)
            · exact absurd h170 (by omega)
            refine R_iconst 174 rfl dX11_worth_173 ?_
            refine R_goto 178 rfl dX11_worth_174 ?_
            refine R_istore [_, _, _, _, _, _, _, _, _, _, _, _, _, _] 180 rfl dX11_worth_178 rfl (by decide) ?_
            refine R_lload 182 rfl dX11_worth_180 rfl ?_
            refine R_iload 184 rfl dX11_worth_182 rfl ?_
            refine R_if_eq 187 191 rfl rfl dX11_worth_184 (by first | assumption | exact ⟨by omega, by omega⟩) (fun h184 => ?_) (fun h184 => ?_)
            · exact absurd h184 (by omega)
            refine R_lconst 188 rfl dX11_worth_187 ?_
            refine R_topL (b := 1) rfl ?_
            refine R_goto 192 rfl dX11_worth_188 ?_
            refine R_ladd 193 rfl dX11_worth_192 ?_
            refine R_lstore [_, _, _, _, _, _, _, _, _, _, _, _, _, _] 195 rfl dX11_worth_193 rfl (by decide) ?_
            refine R_lload 197 rfl dX11_worth_195 rfl ?_
            refine R_iload 199 rfl dX11_worth_197 rfl ?_
            refine R_if_eq 202 215 rfl rfl dX11_worth_199 (by first | assumption | exact ⟨by omega, by omega⟩) (fun h199 => ?_) (fun h199 => ?_)
            · exact absurd h199 (by omega)
            refine R_aload_n 203 rfl dX11_worth_202 rfl ?_
            refine R_iload 205 rfl dX11_worth_203 rfl ?_
            refine R_callV_i (M' := mX11_isAble) 208 rfl dX11_worth_205 ml_X11_246 kmX11_isAble im_X11_isAble se_X11_isAble rfl ⟨by decide, rfl⟩ (c_X11_isAble _ k hZ (by omega) (by omega)) rfl rfl ⟨Nat.le_of_ble_eq_true rfl, Nat.le_of_ble_eq_true rfl⟩ (Nat.le_of_ble_eq_true rfl) ⟨Nat.le_of_ble_eq_true rfl, Nat.le_of_ble_eq_true rfl⟩ ?_
            refine R_ifp_eq 211 215 rfl rfl dX11_worth_208 (fun h208 => ?_) (fun h208 => ?_)
            · refine R_lconst 216 rfl dX11_worth_215 ?_
              refine R_topL (b := 0) rfl ?_
              refine R_ladd 217 rfl dX11_worth_216 ?_
              refine R_lstore [_, _, _, _, _, _, _, _, _, _, _, _, _, _] 219 rfl dX11_worth_217 rfl (by decide) ?_
              refine R_iinc [_, _, _, _, _, _, _, _, _, _, _, _, _, _] 222 rfl dX11_worth_219 rfl rfl (by decide) ?_
              refine R_goto 65 rfl dX11_worth_222 ?_
              first
                | (have y1 : qtP L B ch kn.toNat yr 0 k = true := e1.mpr ⟨h121, by omega⟩
                   rw [pI_t y1] at c1
                   first
                     | (rw [pI_t (e2.mpr ⟨y1, h208⟩)] at c2
                        exact ih (by omega) _ _ _ _ _ _ (by omega) (by omega) (by omega))
                     | (rw [pI_f (fun q => h208 (e2.mp q).2)] at c2
                        exact ih (by omega) _ _ _ _ _ _ (by omega) (by omega) (by omega)))
                | (have y1 : ¬ qtP L B ch kn.toNat yr 0 k = true := fun q => by have q2 := e1.mp q; first | exact h121 q2.1 | (have q3 := q2.2; omega)
                   rw [pI_f y1] at c1
                   rw [pI_f (fun q => y1 (e2.mp q).1)] at c2
                   exact ih (by omega) _ _ _ _ _ _ (by omega) (by omega) (by omega))
            · refine R_lconst 212 rfl dX11_worth_211 ?_
              refine R_topL (b := 1) rfl ?_
              refine R_goto 216 rfl dX11_worth_212 ?_
              refine R_ladd 217 rfl dX11_worth_216 ?_
              refine R_lstore [_, _, _, _, _, _, _, _, _, _, _, _, _, _] 219 rfl dX11_worth_217 rfl (by decide) ?_
              refine R_iinc [_, _, _, _, _, _, _, _, _, _, _, _, _, _] 222 rfl dX11_worth_219 rfl rfl (by decide) ?_
              refine R_goto 65 rfl dX11_worth_222 ?_
              first
                | (have y1 : qtP L B ch kn.toNat yr 0 k = true := e1.mpr ⟨h121, by omega⟩
                   rw [pI_t y1] at c1
                   first
                     | (rw [pI_t (e2.mpr ⟨y1, h208⟩)] at c2
                        exact ih (by omega) _ _ _ _ _ _ (by omega) (by omega) (by omega))
                     | (rw [pI_f (fun q => h208 (e2.mp q).2)] at c2
                        exact ih (by omega) _ _ _ _ _ _ (by omega) (by omega) (by omega)))
                | (have y1 : ¬ qtP L B ch kn.toNat yr 0 k = true := fun q => by have q2 := e1.mp q; first | exact h121 q2.1 | (have q3 := q2.2; omega)
                   rw [pI_f y1] at c1
                   rw [pI_f (fun q => y1 (e2.mp q).1)] at c2
                   exact ih (by omega) _ _ _ _ _ _ (by omega) (by omega) (by omega))
          · refine R_iconst 154 rfl dX11_worth_153 ?_
            refine R_goto 158 rfl dX11_worth_154 ?_
            refine R_iload 160 rfl dX11_worth_158 rfl ?_
            refine R_iconst 161 rfl dX11_worth_160 ?_
            refine R_irem_p 162 rfl dX11_worth_161 (by first | assumption | exact ⟨by omega, by omega⟩) (by first | assumption | exact ⟨by omega, by omega⟩) (by omega) (by omega) ?_
            refine R_if_ne 165 169 rfl rfl dX11_worth_162 (by first | assumption | exact ⟨by omega, by omega⟩) (fun h162 => ?_) (fun h162 => ?_)
            rotate_left
            · exact absurd h162 (by omega)
            refine R_iconst 170 rfl dX11_worth_169 ?_
            refine R_icmp_ne 173 177 rfl rfl dX11_worth_170 (by first | assumption | exact ⟨by omega, by omega⟩) (by first | assumption | exact ⟨by omega, by omega⟩) (fun h170 => ?_) (fun h170 => ?_)
            rotate_left
            · exact absurd h170 (by omega)
            refine R_iconst 178 rfl dX11_worth_177 ?_
            refine R_istore [_, _, _, _, _, _, _, _, _, _, _, _, _, _] 180 rfl dX11_worth_178 rfl (by decide) ?_
            refine R_lload 182 rfl dX11_worth_180 rfl ?_
            refine R_iload 184 rfl dX11_worth_182 rfl ?_
            refine R_if_eq 187 191 rfl rfl dX11_worth_184 (by first | assumption | exact ⟨by omega, by omega⟩) (fun h184 => ?_) (fun h184 => ?_)
            rotate_left
            · exact absurd h184 (by omega)
            refine R_lconst 192 rfl dX11_worth_191 ?_
            refine R_topL (b := 0) rfl ?_
            refine R_ladd 193 rfl dX11_worth_192 ?_
            refine R_lstore [_, _, _, _, _, _, _, _, _, _, _, _, _, _] 195 rfl dX11_worth_193 rfl (by decide) ?_
            refine R_lload 197 rfl dX11_worth_195 rfl ?_
            refine R_iload 199 rfl dX11_worth_197 rfl ?_
            refine R_if_eq 202 215 rfl rfl dX11_worth_199 (by first | assumption | exact ⟨by omega, by omega⟩) (fun h199 => ?_) (fun h199 => ?_)
            rotate_left
            · exact absurd h199 (by omega)
            refine R_lconst 216 rfl dX11_worth_215 ?_
            refine R_topL (b := 0) rfl ?_
            refine R_ladd 217 rfl dX11_worth_216 ?_
            refine R_lstore [_, _, _, _, _, _, _, _, _, _, _, _, _, _] 219 rfl dX11_worth_217 rfl (by decide) ?_
            refine R_iinc [_, _, _, _, _, _, _, _, _, _, _, _, _, _] 222 rfl dX11_worth_219 rfl rfl (by decide) ?_
            refine R_goto 65 rfl dX11_worth_222 ?_
            first
              | (have y1 : qtP L B ch kn.toNat yr 0 k = true := e1.mpr ⟨h121, by omega⟩
                 rw [pI_t y1] at c1
                 first
                   | (rw [pI_t (e2.mpr ⟨y1, h208⟩)] at c2
                      exact ih (by omega) _ _ _ _ _ _ (by omega) (by omega) (by omega))
                   | (rw [pI_f (fun q => h208 (e2.mp q).2)] at c2
                      exact ih (by omega) _ _ _ _ _ _ (by omega) (by omega) (by omega)))
              | (have y1 : ¬ qtP L B ch kn.toNat yr 0 k = true := fun q => by have q2 := e1.mp q; first | exact h121 q2.1 | (have q3 := q2.2; omega)
                 rw [pI_f y1] at c1
                 rw [pI_f (fun q => y1 (e2.mp q).1)] at c2
                 exact ih (by omega) _ _ _ _ _ _ (by omega) (by omega) (by omega))
      · refine R_iload 103 rfl dX11_worth_101 rfl ?_
        refine R_iload_n 104 rfl dX11_worth_103 rfl ?_
        refine R_icmp_gt 107 111 rfl rfl dX11_worth_104 (by first | assumption | exact ⟨by omega, by omega⟩) (by first | assumption | exact ⟨by omega, by omega⟩) (fun h104 => ?_) (fun h104 => ?_)
        · refine R_iconst 112 rfl dX11_worth_111 ?_
          refine R_istore [_, _, _, _, _, _, _, _, _, _, _, _, _, _] 114 rfl dX11_worth_112 rfl (by decide) ?_
          refine R_aload_n 115 rfl dX11_worth_114 rfl ?_
          refine R_iconst 116 rfl dX11_worth_115 ?_
          refine R_iload 118 rfl dX11_worth_116 rfl ?_
          refine R_callV_i (M' := mX11_isIn) 121 rfl dX11_worth_118 ml_X11_240 kmX11_isIn im_X11_isIn se_X11_isIn rfl ⟨by decide, rfl⟩ (c_X11_isIn _ _ 0 k hW rfl (by decide) (by omega) (by omega)) rfl rfl ⟨Nat.le_of_ble_eq_true rfl, Nat.le_of_ble_eq_true rfl⟩ (Nat.le_of_ble_eq_true rfl) ⟨Nat.le_of_ble_eq_true rfl, Nat.le_of_ble_eq_true rfl⟩ ?_
          refine R_ifp_eq 124 177 rfl rfl dX11_worth_121 (fun h121 => ?_) (fun h121 => ?_)
          · refine R_iconst 178 rfl dX11_worth_177 ?_
            refine R_istore [_, _, _, _, _, _, _, _, _, _, _, _, _, _] 180 rfl dX11_worth_178 rfl (by decide) ?_
            refine R_lload 182 rfl dX11_worth_180 rfl ?_
            refine R_iload 184 rfl dX11_worth_182 rfl ?_
            refine R_if_eq 187 191 rfl rfl dX11_worth_184 (by first | assumption | exact ⟨by omega, by omega⟩) (fun h184 => ?_) (fun h184 => ?_)
            rotate_left
            · exact absurd h184 (by omega)
            refine R_lconst 192 rfl dX11_worth_191 ?_
            refine R_topL (b := 0) rfl ?_
            refine R_ladd 193 rfl dX11_worth_192 ?_
            refine R_lstore [_, _, _, _, _, _, _, _, _, _, _, _, _, _] 195 rfl dX11_worth_193 rfl (by decide) ?_
            refine R_lload 197 rfl dX11_worth_195 rfl ?_
            refine R_iload 199 rfl dX11_worth_197 rfl ?_
            refine R_if_eq 202 215 rfl rfl dX11_worth_199 (by first | assumption | exact ⟨by omega, by omega⟩) (fun h199 => ?_) (fun h199 => ?_)
            rotate_left
            · exact absurd h199 (by omega)
            refine R_lconst 216 rfl dX11_worth_215 ?_
            refine R_topL (b := 0) rfl ?_
            refine R_ladd 217 rfl dX11_worth_216 ?_
            refine R_lstore [_, _, _, _, _, _, _, _, _, _, _, _, _, _] 219 rfl dX11_worth_217 rfl (by decide) ?_
            refine R_iinc [_, _, _, _, _, _, _, _, _, _, _, _, _, _] 222 rfl dX11_worth_219 rfl rfl (by decide) ?_
            refine R_goto 65 rfl dX11_worth_222 ?_
            first
              | (have y1 : qtP L B ch kn.toNat yr 0 k = true := e1.mpr ⟨h121, by omega⟩
                 rw [pI_t y1] at c1
                 first
                   | (rw [pI_t (e2.mpr ⟨y1, h208⟩)] at c2
                      exact ih (by omega) _ _ _ _ _ _ (by omega) (by omega) (by omega))
                   | (rw [pI_f (fun q => h208 (e2.mp q).2)] at c2
                      exact ih (by omega) _ _ _ _ _ _ (by omega) (by omega) (by omega)))
              | (have y1 : ¬ qtP L B ch kn.toNat yr 0 k = true := fun q => by have q2 := e1.mp q; first | exact h121 q2.1 | (have q3 := q2.2; omega)
                 rw [pI_f y1] at c1
                 rw [pI_f (fun q => y1 (e2.mp q).1)] at c2
                 exact ih (by omega) _ _ _ _ _ _ (by omega) (by omega) (by omega))
          · refine R_iload 126 rfl dX11_worth_124 rfl ?_
            refine R_iload 128 rfl dX11_worth_126 rfl ?_
            refine R_iconst 129 rfl dX11_worth_128 ?_
            refine R_icmp_ge 132 136 rfl rfl dX11_worth_129 (by first | assumption | exact ⟨by omega, by omega⟩) (by first | assumption | exact ⟨by omega, by omega⟩) (fun h129 => ?_) (fun h129 => ?_)
            rotate_left
            · exact absurd h129 (by omega)
            refine R_iconst 137 rfl dX11_worth_136 ?_
            refine R_icmp_ne 140 177 rfl rfl dX11_worth_137 (by first | assumption | exact ⟨by omega, by omega⟩) (by first | assumption | exact ⟨by omega, by omega⟩) (fun h137 => ?_) (fun h137 => ?_)
            · exact absurd h137 (by omega)
            refine R_aload_n 141 rfl dX11_worth_140 rfl ?_
            refine R_iload 143 rfl dX11_worth_141 rfl ?_
            refine R_iconst 144 rfl dX11_worth_143 ?_
            refine R_idiv_p 145 rfl dX11_worth_144 (by first | assumption | exact ⟨by omega, by omega⟩) (by first | assumption | exact ⟨by omega, by omega⟩) (by omega) (by omega) ?_
            refine R_iconst 146 rfl dX11_worth_145 ?_
            refine R_callV_i (M' := mX11_its) 149 rfl dX11_worth_146 ml_X11_153 kmX11_its im_X11_its se_X11_its rfl ⟨by decide, rfl⟩ (c_X11_its _ _ (k / 2) 1 hZ.1 (by omega) (by omega) (by omega) (by omega)) rfl rfl ⟨Nat.le_of_ble_eq_true rfl, Nat.le_of_ble_eq_true rfl⟩ (Nat.le_of_ble_eq_true rfl) ⟨Nat.le_of_ble_eq_true rfl, Nat.le_of_ble_eq_true rfl⟩ ?_
            refine R_iload_n 150 rfl dX11_worth_149 rfl ?_
            refine R_icmp_lt 153 157 rfl rfl dX11_worth_150 (by first | assumption | exact ⟨by omega, by omega⟩) (by first | assumption | exact ⟨by omega, by omega⟩) (fun h150 => ?_) (fun h150 => ?_)
            · refine R_iconst 158 rfl dX11_worth_157 ?_
              refine R_iload 160 rfl dX11_worth_158 rfl ?_
              refine R_iconst 161 rfl dX11_worth_160 ?_
              refine R_irem_p 162 rfl dX11_worth_161 (by first | assumption | exact ⟨by omega, by omega⟩) (by first | assumption | exact ⟨by omega, by omega⟩) (by omega) (by omega) ?_
              refine R_if_ne 165 169 rfl rfl dX11_worth_162 (by first | assumption | exact ⟨by omega, by omega⟩) (fun h162 => ?_) (fun h162 => ?_)
              rotate_left
              · exact absurd h162 (by omega)
              refine R_iconst 170 rfl dX11_worth_169 ?_
              refine R_icmp_ne 173 177 rfl rfl dX11_worth_170 (by first | assumption | exact ⟨by omega, by omega⟩) (by first | assumption | exact ⟨by omega, by omega⟩) (fun h170 => ?_) (fun h170 => ?_)
              · exact absurd h170 (by omega)
              refine R_iconst 174 rfl dX11_worth_173 ?_
              refine R_goto 178 rfl dX11_worth_174 ?_
              refine R_istore [_, _, _, _, _, _, _, _, _, _, _, _, _, _] 180 rfl dX11_worth_178 rfl (by decide) ?_
              refine R_lload 182 rfl dX11_worth_180 rfl ?_
              refine R_iload 184 rfl dX11_worth_182 rfl ?_
              refine R_if_eq 187 191 rfl rfl dX11_worth_184 (by first | assumption | exact ⟨by omega, by omega⟩) (fun h184 => ?_) (fun h184 => ?_)
              · exact absurd h184 (by omega)
              refine R_lconst 188 rfl dX11_worth_187 ?_
              refine R_topL (b := 1) rfl ?_
              refine R_goto 192 rfl dX11_worth_188 ?_
              refine R_ladd 193 rfl dX11_worth_192 ?_
              refine R_lstore [_, _, _, _, _, _, _, _, _, _, _, _, _, _] 195 rfl dX11_worth_193 rfl (by decide) ?_
              refine R_lload 197 rfl dX11_worth_195 rfl ?_
              refine R_iload 199 rfl dX11_worth_197 rfl ?_
              refine R_if_eq 202 215 rfl rfl dX11_worth_199 (by first | assumption | exact ⟨by omega, by omega⟩) (fun h199 => ?_) (fun h199 => ?_)
              · exact absurd h199 (by omega)
              refine R_aload_n 203 rfl dX11_worth_202 rfl ?_
              refine R_iload 205 rfl dX11_worth_203 rfl ?_
              refine R_callV_i (M' := mX11_isAble) 208 rfl dX11_worth_205 ml_X11_246 kmX11_isAble im_X11_isAble se_X11_isAble rfl ⟨by decide, rfl⟩ (c_X11_isAble _ k hZ (by omega) (by omega)) rfl rfl ⟨Nat.le_of_ble_eq_true rfl, Nat.le_of_ble_eq_true rfl⟩ (Nat.le_of_ble_eq_true rfl) ⟨Nat.le_of_ble_eq_true rfl, Nat.le_of_ble_eq_true rfl⟩ ?_
              refine R_ifp_eq 211 215 rfl rfl dX11_worth_208 (fun h208 => ?_) (fun h208 => ?_)
              · refine R_lconst 216 rfl dX11_worth_215 ?_
                refine R_topL (b := 0) rfl ?_
                refine R_ladd 217 rfl dX11_worth_216 ?_
                refine R_lstore [_, _, _, _, _, _, _, _, _, _, _, _, _, _] 219 rfl dX11_worth_217 rfl (by decide) ?_
                refine R_iinc [_, _, _, _, _, _, _, _, _, _, _, _, _, _] 222 rfl dX11_worth_219 rfl rfl (by decide) ?_
                refine R_goto 65 rfl dX11_worth_222 ?_
                first
                  | (have y1 : qtP L B ch kn.toNat yr 0 k = true := e1.mpr ⟨h121, by omega⟩
                     rw [pI_t y1] at c1
                     first
                       | (rw [pI_t (e2.mpr ⟨y1, h208⟩)] at c2
                          exact ih (by omega) _ _ _ _ _ _ (by omega) (by omega) (by omega))
                       | (rw [pI_f (fun q => h208 (e2.mp q).2)] at c2
                          exact ih (by omega) _ _ _ _ _ _ (by omega) (by omega) (by omega)))
                  | (have y1 : ¬ qtP L B ch kn.toNat yr 0 k = true := fun q => by have q2 := e1.mp q; first | exact h121 q2.1 | (have q3 := q2.2; omega)
                     rw [pI_f y1] at c1
                     rw [pI_f (fun q => y1 (e2.mp q).1)] at c2
                     exact ih (by omega) _ _ _ _ _ _ (by omega) (by omega) (by omega))
              · refine R_lconst 212 rfl dX11_worth_211 ?_
                refine R_topL (b := 1) rfl ?_
                refine R_goto 216 rfl dX11_worth_212 ?_
                refine R_ladd 217 rfl dX11_worth_216 ?_
                refine R_lstore [_, _, _, _, _, _, _, _, _, _, _, _, _, _] 219 rfl dX11_worth_217 rfl (by decide) ?_
                refine R_iinc [_, _, _, _, _, _, _, _, _, _, _, _, _, _] 222 rfl dX11_worth_219 rfl rfl (by decide) ?_
                refine R_goto 65 rfl dX11_worth_222 ?_
                first
                  | (have y1 : qtP L B ch kn.toNat yr 0 k = true := e1.mpr ⟨h121, by omega⟩
                     rw [pI_t y1] at c1
                     first
                       | (rw [pI_t (e2.mpr ⟨y1, h208⟩)] at c2
                          exact ih (by omega) _ _ _ _ _ _ (by omega) (by omega) (by omega))
                       | (rw [pI_f (fun q => h208 (e2.mp q).2)] at c2
                          exact ih (by omega) _ _ _ _ _ _ (by omega) (by omega) (by omega)))
                  | (have y1 : ¬ qtP L B ch kn.toNat yr 0 k = true := fun q => by have q2 := e1.mp q; first | exact h121 q2.1 | (have q3 := q2.2; omega)
                     rw [pI_f y1] at c1
                     rw [pI_f (fun q => y1 (e2.mp q).1)] at c2
                     exact ih (by omega) _ _ _ _ _ _ (by omega) (by omega) (by omega))
            · refine R_iconst 154 rfl dX11_worth_153 ?_
              refine R_goto 158 rfl dX11_worth_154 ?_
              refine R_iload 160 rfl dX11_worth_158 rfl ?_
              refine R_iconst 161 rfl dX11_worth_160 ?_
              refine R_irem_p 162 rfl dX11_worth_161 (by first | assumption | exact ⟨by omega, by omega⟩) (by first | assumption | exact ⟨by omega, by omega⟩) (by omega) (by omega) ?_
              refine R_if_ne 165 169 rfl rfl dX11_worth_162 (by first | assumption | exact ⟨by omega, by omega⟩) (fun h162 => ?_) (fun h162 => ?_)
              rotate_left
              · exact absurd h162 (by omega)
              refine R_iconst 170 rfl dX11_worth_169 ?_
              refine R_icmp_ne 173 177 rfl rfl dX11_worth_170 (by first | assumption | exact ⟨by omega, by omega⟩) (by first | assumption | exact ⟨by omega, by omega⟩) (fun h170 => ?_) (fun h170 => ?_)
              rotate_left
              · exact absurd h170 (by omega)
              refine R_iconst 178 rfl dX11_worth_177 ?_
              refine R_istore [_, _, _, _, _, _, _, _, _, _, _, _, _, _] 180 rfl dX11_worth_178 rfl (by decide) ?_
              refine R_lload 182 rfl dX11_worth_180 rfl ?_
              refine R_iload 184 rfl dX11_worth_182 rfl ?_
              refine R_if_eq 187 191 rfl rfl dX11_worth_184 (by first | assumption | exact ⟨by omega, by omega⟩) (fun h184 => ?_) (fun h184 => ?_)
              rotate_left
              · exact absurd h184 (by omega)
              refine R_lconst 192 rfl dX11_worth_191 ?_
              refine R_topL (b := 0) rfl ?_
              refine R_ladd 193 rfl dX11_worth_192 ?_
              refine R_lstore [_, _, _, _, _, _, _, _, _, _, _, _, _, _] 195 rfl dX11_worth_193 rfl (by decide) ?_
              refine R_lload 197 rfl dX11_worth_195 rfl ?_
              refine R_iload 199 rfl dX11_worth_197 rfl ?_
              refine R_if_eq 202 215 rfl rfl dX11_worth_199 (by first | assumption | exact ⟨by omega, by omega⟩) (fun h199 => ?_) (fun h199 => ?_)
              rotate_left
              · exact absurd h199 (by omega)
              refine R_lconst 216 rfl dX11_worth_215 ?_
              refine R_topL (b := 0) rfl ?_
              refine R_ladd 217 rfl dX11_worth_216 ?_
              refine R_lstore [_, _, _, _, _, _, _, _, _, _, _, _, _, _] 219 rfl dX11_worth_217 rfl (by decide) ?_
              refine R_iinc [_, _, _, _, _, _, _, _, _, _, _, _, _, _] 222 rfl dX11_worth_219 rfl rfl (by decide) ?_
              refine R_goto 65 rfl dX11_worth_222 ?_
              first
                | (have y1 : qtP L B ch kn.toNat yr 0 k = true := e1.mpr ⟨h121, by omega⟩
                   rw [pI_t y1] at c1
                   first
                     | (rw [pI_t (e2.mpr ⟨y1, h208⟩)] at c2
                        exact ih (by omega) _ _ _ _ _ _ (by omega) (by omega) (by omega))
                     | (rw [pI_f (fun q => h208 (e2.mp q).2)] at c2
                        exact ih (by omega) _ _ _ _ _ _ (by omega) (by omega) (by omega)))
                | (have y1 : ¬ qtP L B ch kn.toNat yr 0 k = true := fun q => by have q2 := e1.mp q; first | exact h121 q2.1 | (have q3 := q2.2; omega)
                   rw [pI_f y1] at c1
                   rw [pI_f (fun q => y1 (e2.mp q).1)] at c2
                   exact ih (by omega) _ _ _ _ _ _ (by omega) (by omega) (by omega))
        · refine R_iconst 108 rfl dX11_worth_107 ?_
          refine R_goto 112 rfl dX11_worth_108 ?_
          refine R_istore [_, _, _, _, _, _, _, _, _, _, _, _, _, _] 114 rfl dX11_worth_112 rfl (by decide) ?_
          refine R_aload_n 115 rfl dX11_worth_114 rfl ?_
          refine R_iconst 116 rfl dX11_worth_115 ?_
          refine R_iload 118 rfl dX11_worth_116 rfl ?_
          refine R_callV_i (M' := mX11_isIn) 121 rfl dX11_worth_118 ml_X11_240 kmX11_isIn im_X11_isIn se_X11_isIn rfl ⟨by decide, rfl⟩ (c_X11_isIn _ _ 0 k hW rfl (by decide) (by omega) (by omega)) rfl rfl ⟨Nat.le_of_ble_eq_true rfl, Nat.le_of_ble_eq_true rfl⟩ (Nat.le_of_ble_eq_true rfl) ⟨Nat.le_of_ble_eq_true rfl, Nat.le_of_ble_eq_true rfl⟩ ?_
          refine R_ifp_eq 124 177 rfl rfl dX11_worth_121 (fun h121 => ?_) (fun h121 => ?_)
          · refine R_iconst 178 rfl dX11_worth_177 ?_
            refine R_istore [_, _, _, _, _, _, _, _, _, _, _, _, _, _] 180 rfl dX11_worth_178 rfl (by decide) ?_
            refine R_lload 182 rfl dX11_worth_180 rfl ?_
            refine R_iload 184 rfl dX11_worth_182 rfl ?_
            refine R_if_eq 187 191 rfl rfl dX11_worth_184 (by first | assumption | exact ⟨by omega, by omega⟩) (fun h184 => ?_) (fun h184 => ?_)
            rotate_left
            · exact absurd h184 (by omega)
            refine R_lconst 192 rfl dX11_worth_191 ?_
            refine R_topL (b := 0) rfl ?_
            refine R_ladd 193 rfl dX11_worth_192 ?_
            refine R_lstore [_, _, _, _, _, _, _, _, _, _, _, _, _, _] 195 rfl dX11_worth_193 rfl (by decide) ?_
            refine R_lload 197 rfl dX11_worth_195 rfl ?_
            refine R_iload 199 rfl dX11_worth_197 rfl ?_
            refine R_if_eq 202 215 rfl rfl dX11_worth_199 (by first | assumption | exact ⟨by omega, by omega⟩) (fun h199 => ?_) (fun h199 => ?_)
            rotate_left
            · exact absurd h199 (by omega)
            refine R_lconst 216 rfl dX11_worth_215 ?_
            refine R_topL (b := 0) rfl ?_
            refine R_ladd 217 rfl dX11_worth_216 ?_
            refine R_lstore [_, _, _, _, _, _, _, _, _, _, _, _, _, _] 219 rfl dX11_worth_217 rfl (by decide) ?_
            refine R_iinc [_, _, _, _, _, _, _, _, _, _, _, _, _, _] 222 rfl dX11_worth_219 rfl rfl (by decide) ?_
            refine R_goto 65 rfl dX11_worth_222 ?_
            first
              | (have y1 : qtP L B ch kn.toNat yr 0 k = true := e1.mpr ⟨h121, by omega⟩
                 rw [pI_t y1] at c1
                 first
                   | (rw [pI_t (e2.mpr ⟨y1, h208⟩)] at c2
                      exact ih (by omega) _ _ _ _ _ _ (by omega) (by omega) (by omega))
                   | (rw [pI_f (fun q => h208 (e2.mp q).2)] at c2
                      exact ih (by omega) _ _ _ _ _ _ (by omega) (by omega) (by omega)))
              | (have y1 : ¬ qtP L B ch kn.toNat yr 0 k = true := fun q => by have q2 := e1.mp q; first | exact h121 q2.1 | (have q3 := q2.2; omega)
                 rw [pI_f y1] at c1
                 rw [pI_f (fun q => y1 (e2.mp q).1)] at c2
                 exact ih (by omega) _ _ _ _ _ _ (by omega) (by omega) (by omega))
          · refine R_iload 126 rfl dX11_worth_124 rfl ?_
            refine R_iload 128 rfl dX11_worth_126 rfl ?_
            refine R_iconst 129 rfl dX11_worth_128 ?_
            refine R_icmp_ge 132 136 rfl rfl dX11_worth_129 (by first | assumption | exact ⟨by omega, by omega⟩) (by first | assumption | exact ⟨by omega, by omega⟩) (fun h129 => ?_) (fun h129 => ?_)
            rotate_left
            · exact absurd h129 (by omega)
            refine R_iconst 137 rfl dX11_worth_136 ?_
            refine R_icmp_ne 140 177 rfl rfl dX11_worth_137 (by first | assumption | exact ⟨by omega, by omega⟩) (by first | assumption | exact ⟨by omega, by omega⟩) (fun h137 => ?_) (fun h137 => ?_)
            rotate_left
            · exact absurd h137 (by omega)
            refine R_iconst 178 rfl dX11_worth_177 ?_
            refine R_istore [_, _, _, _, _, _, _, _, _, _, _, _, _, _] 180 rfl dX11_worth_178 rfl (by decide) ?_
            refine R_lload 182 rfl dX11_worth_180 rfl ?_
            refine R_iload 184 rfl dX11_worth_182 rfl ?_
            refine R_if_eq 187 191 rfl rfl dX11_worth_184 (by first | assumption | exact ⟨by omega, by omega⟩) (fun h184 => ?_) (fun h184 => ?_)
            rotate_left
            · exact absurd h184 (by omega)
            refine R_lconst 192 rfl dX11_worth_191 ?_
            refine R_topL (b := 0) rfl ?_
            refine R_ladd 193 rfl dX11_worth_192 ?_
            refine R_lstore [_, _, _, _, _, _, _, _, _, _, _, _, _, _] 195 rfl dX11_worth_193 rfl (by decide) ?_
            refine R_lload 197 rfl dX11_worth_195 rfl ?_
            refine R_iload 199 rfl dX11_worth_197 rfl ?_
            refine R_if_eq 202 215 rfl rfl dX11_worth_199 (by first | assumption | exact ⟨by omega, by omega⟩) (fun h199 => ?_) (fun h199 => ?_)
            rotate_left
            · exact absurd h199 (by omega)
            refine R_lconst 216 rfl dX11_worth_215 ?_
            refine R_topL (b := 0) rfl ?_
            refine R_ladd 217 rfl dX11_worth_216 ?_
            refine R_lstore [_, _, _, _, _, _, _, _, _, _, _, _, _, _] 219 rfl dX11_worth_217 rfl (by decide) ?_
            refine R_iinc [_, _, _, _, _, _, _, _, _, _, _, _, _, _] 222 rfl dX11_worth_219 rfl rfl (by decide) ?_
            refine R_goto 65 rfl dX11_worth_222 ?_
            first
              | (have y1 : qtP L B ch kn.toNat yr 0 k = true := e1.mpr ⟨h121, by omega⟩
                 rw [pI_t y1] at c1
                 first
                   | (rw [pI_t (e2.mpr ⟨y1, h208⟩)] at c2
                      exact ih (by omega) _ _ _ _ _ _ (by omega) (by omega) (by omega))
                   | (rw [pI_f (fun q => h208 (e2.mp q).2)] at c2
                      exact ih (by omega) _ _ _ _ _ _ (by omega) (by omega) (by omega)))
              | (have y1 : ¬ qtP L B ch kn.toNat yr 0 k = true := fun q => by have q2 := e1.mp q; first | exact h121 q2.1 | (have q3 := q2.2; omega)
                 rw [pI_f y1] at c1
                 rw [pI_f (fun q => y1 (e2.mp q).1)] at c2
                 exact ih (by omega) _ _ _ _ _ _ (by omega) (by omega) (by omega))
  refine R_iload 52 rfl dX11_worth_50 rfl ?_
  refine R_iconst 53 rfl dX11_worth_52 ?_
  refine R_icmp_ge 56 282 rfl rfl dX11_worth_53 (by first | assumption | exact ⟨by omega, by omega⟩) (by first | assumption | exact ⟨by omega, by omega⟩) (fun h53 => ?_) (fun h53 => ?_)
  · exact absurd h53 (by omega)
  refine R_lconst 57 rfl dX11_worth_56 ?_
  refine R_topL (b := 0) rfl ?_
  refine R_lstore [_, _, _, _, _, _, _, _, _, _, _, _, _, _] 59 rfl dX11_worth_57 rfl (by decide) ?_
  refine R_lconst 60 rfl dX11_worth_59 ?_
  refine R_topL (b := 0) rfl ?_
  refine R_lstore [_, _, _, _, _, _, _, _, _, _, _, _, _, _] 62 rfl dX11_worth_60 rfl (by decide) ?_
  refine R_iconst 63 rfl dX11_worth_62 ?_
  refine R_istore [_, _, _, _, _, _, _, _, _, _, _, _, _, _] 65 rfl dX11_worth_63 rfl (by decide) ?_
  exact Li 0 (by omega) _ _ _ _ _ _ rfl rfl rfl
set_option maxHeartbeats 2000000 in
theorem w_2 (kn yr w nb : Int) (m1 : Mem) {x6 x8 x10 x11 x12 x13 : Option AV} {x7 x9 : Option AV} (hR : RS L B ch m) (ho : (0 ≤ kn ∧ kn ≤ 1) ∧ (0 ≤ yr ∧ yr ≤ 89) ∧ (0 ≤ w ∧ w ≤ 1)) (hI : wI L B ch m m1 (qtM L B ch kn.toNat yr) (qtB L B ch kn.toNat yr) 2 nb) : R Γ mX11_worth { frames := 7, cells := 0, slots := 0, locals := 280 } 0 0 (QM L B ch m (a_worth L B ch kn yr w)) 0 0 50 [some (vr 96), some (vi kn), some (vi yr), some (vi w), some (vi nb), some (vi 2), x6, x7, x8, x9, x10, x11, x12, x13] [] SH m1 := by
  obtain ⟨hf, hZ, hr, n01, n0, n1⟩ := id hI
  have hO := hR.2.2.2.2.1
  have hb := hO.1
  have hl := hR.2.2.1.1
  have qr := qt_rg L B ch kn.toNat yr hb
  have qa := qt_ab L B ch kn.toNat yr 1
  obtain ⟨d1, d2⟩ := we_bd qr
  have d20 := d2 0
  have d21 := d2 1
  have d22 := d2 2
  have d23 := d2 3
  have hW := hZ.w
  have Li : ∀ k, k ≤ 2 * B.1 → ∀ n c z y11 y12 y13, n = (cnt (qtP L B ch kn.toNat yr 1) k : Int) → c = (cnt (qtQ L B ch kn.toNat yr 1) k : Int) → z = (k : Int) → R Γ mX11_worth { frames := 7, cells := 0, slots := 0, locals := 280 } 0 0 (QM L B ch m (a_worth L B ch kn yr w)) 0 0 65 [some (vr 96), some (vi kn), some (vi yr), some (vi w), some (vi nb), some (vi 2), some (vl n), none, some (vl c), none, some (vi z), y11, y12, y13] [] SH m1 := by
    refine up_ind (2 * B.1) (fun k hk ih n c z y11 y12 y13 hn hc hz => ?_)
    have cl := cnt_le (qtP L B ch kn.toNat yr 1) k
    have cl2 := cnt_le (qtQ L B ch kn.toNat yr 1) k
    refine R_iload 67 rfl dX11_worth_65 rfl ?_
    refine R_iconst 68 rfl dX11_worth_67 ?_
    refine R_aload_n 69 rfl dX11_worth_68 rfl ?_
    refine R_callV_i (M' := mX11_size) 72 rfl dX11_worth_69 ml_X11_150 kmX11_size im_X11_size se_X11_size rfl ⟨by decide, rfl⟩ (c_X11_size hZ.1) rfl rfl ⟨Nat.le_of_ble_eq_true rfl, Nat.le_of_ble_eq_true rfl⟩ (Nat.le_of_ble_eq_true rfl) ⟨Nat.le_of_ble_eq_true rfl, Nat.le_of_ble_eq_true rfl⟩ ?_
    refine R_imul 73 rfl dX11_worth_72 ?_
    refine R_icmp_ge 76 225 rfl rfl dX11_worth_73 (by first | assumption | exact ⟨by omega, by omega⟩) (by first | assumption | exact ⟨by omega, by omega⟩) (fun h73 => ?_) (fun h73 => ?_)
    · have ek : k = 2 * B.1 := by omega
      subst ek
      have en : n = qtM L B ch kn.toNat yr 1 := hn
      have ec : c = qtB L B ch kn.toNat yr 1 := hc
      have ws : weN (qtM L B ch kn.toNat yr) (qtB L B ch kn.toNat yr) 3 = weN (qtM L B ch kn.toNat yr) (qtB L B ch kn.toNat yr) 2 + -c * weQ (qtM L B ch kn.toNat yr) 1 := by rw [ec]; rfl
      have wr := weN_rg qr 3
      have qg := qr 1
      refine R_iload 227 rfl dX11_worth_225 rfl ?_
      refine R_if_ne 230 237 rfl rfl dX11_worth_227 (by first | assumption | exact ⟨by omega, by omega⟩) (fun h227 => ?_) (fun h227 => ?_)
      · refine R_iconst 238 rfl dX11_worth_237 ?_
        refine R_goto 242 rfl dX11_worth_238 ?_
        refine R_istore [_, _, _, _, _, _, _, _, _, _, _, _, _, _] 244 rfl dX11_worth_242 rfl (by decide) ?_
        refine R_lload 246 rfl dX11_worth_244 rfl ?_
        refine R_lconst 247 rfl dX11_worth_246 ?_
        refine R_topL (b := 0) rfl ?_
        refine R_lif_le 248 251 276 rfl rfl rfl dX11_worth_247 dX11_worth_248 (by first | assumption | exact ⟨by omega, by omega⟩ | exact rg_L (by assumption)) (by first | assumption | exact ⟨by omega, by omega⟩ | exact rg_L (by assumption)) (fun h248 => ?_) (fun h248 => ?_)
        · refine R_iinc [_, _, _, _, _, _, _, _, _, _, _, _, _, _] 279 rfl dX11_worth_276 rfl rfl (by decide) ?_
          refine R_goto 50 rfl dX11_worth_279 ?_
          first
            | (exfalso; omega)
            | (refine w_3 kn yr w _ _ hR ho ⟨hf.tr f273.m, f273.z hZ, ?_, by omega, ?_, ?_⟩
               · rw [ws]; exact r273
               · intro q; have := n0; omega
               · intro q; have := n1; omega)
            | (refine w_3 kn yr w _ _ hR ho ⟨hf, hZ, ?_, by omega, ?_, ?_⟩
               · have c0 : c = 0 := by omega
                 rw [ws, c0]
                 simpa using hr
               · intro q; have := n0; omega
               · intro q; have := n1; omega)
        · refine R_aload_n 252 rfl dX11_worth_251 rfl ?_
          refine R_iload 254 rfl dX11_worth_252 rfl ?_
          refine R_if_eq 257 263 rfl rfl dX11_worth_254 (by first | assumption | exact ⟨by omega, by omega⟩) (fun h254 => ?_) (fun h254 => ?_)
          · exact absurd h254 (by omega)
          refine R_iload 259 rfl dX11_worth_257 rfl ?_
          refine R_iconst 260 rfl dX11_worth_259 ?_
          refine R_icmp_ne 263 268 rfl rfl dX11_worth_260 (by first | assumption | exact ⟨by omega, by omega⟩) (by first | assumption | exact ⟨by omega, by omega⟩) (fun h260 => ?_) (fun h260 => ?_)
          rotate_left
          · exact absurd h260 (by omega)
          refine R_lload 270 rfl dX11_worth_268 rfl ?_
          refine R_lneg 271 rfl dX11_worth_270 ?_
          refine R_lload 273 rfl dX11_worth_271 rfl ?_
          refine R_callV_V (M' := mX11_plus) 276 rfl dX11_worth_273 ml_X11_310 kmX11_plus im_X11_plus se_X11_plus rfl ⟨by decide, rfl⟩ (c_X11_plus (weN (qtM L B ch kn.toNat yr) (qtB L B ch kn.toNat yr) 2) (weD (qtM L B ch kn.toNat yr)) _ _ (weQ (qtM L B ch kn.toNat yr) 1) hr ⟨d1.1, by omega⟩ (by omega) (by rw [en, weD_q _ 1 (by omega), we, if_neg (by omega)]) ⟨by omega, by omega⟩ (by rw [← ws]; exact ⟨by omega, by omega⟩)) rfl rfl ⟨Nat.le_of_ble_eq_true rfl, Nat.le_of_ble_eq_true rfl⟩ (Nat.le_of_ble_eq_true rfl) ⟨Nat.le_of_ble_eq_true rfl, Nat.le_of_ble_eq_true rfl⟩ ?_
          rintro m273 h273
          obtain ⟨f273, r273⟩ := h273
          refine R_iinc [_, _, _, _, _, _, _, _, _, _, _, _, _, _] 279 rfl dX11_worth_276 rfl rfl (by decide) ?_
          refine R_goto 50 rfl dX11_worth_279 ?_
          first
            | (exfalso; omega)
            | (refine w_3 kn yr w _ _ hR ho ⟨hf.tr f273.m, f273.z hZ, ?_, by omega, ?_, ?_⟩
               · rw [ws]; exact r273
               · intro q; have := n0; omega
               · intro q; have := n1; omega)
            | (refine w_3 kn yr w _ _ hR ho ⟨hf, hZ, ?_, by omega, ?_, ?_⟩
               · have c0 : c = 0 := by omega
                 rw [ws, c0]
                 simpa using hr
               · intro q; have := n0; omega
               · intro q; have := n1; omega)
      · refine R_lload 232 rfl dX11_worth_230 rfl ?_
        refine R_lconst 233 rfl dX11_worth_232 ?_
        refine R_topL (b := 0) rfl ?_
        refine R_lif_ne 234 237 241 rfl rfl rfl dX11_worth_233 dX11_worth_234 (by first | assumption | exact ⟨by omega, by omega⟩ | exact rg_L (by assumption)) (by first | assumption | exact ⟨by omega, by omega⟩ | exact rg_L (by assumption)) (fun h234 => ?_) (fun h234 => ?_)
        · refine R_iconst 242 rfl dX11_worth_241 ?_
          refine R_istore [_, _, _, _, _, _, _, _, _, _, _, _, _, _] 244 rfl dX11_worth_242 rfl (by decide) ?_
          refine R_lload 246 rfl dX11_worth_244 rfl ?_
          refine R_lconst 247 rfl dX11_worth_246 ?_
          refine R_topL (b := 0) rfl ?_
          refine R_lif_le 248 251 276 rfl rfl rfl dX11_worth_247 dX11_worth_248 (by first | assumption | exact ⟨by omega, by omega⟩ | exact rg_L (by assumption)) (by first | assumption | exact ⟨by omega, by omega⟩ | exact rg_L (by assumption)) (fun h248 => ?_) (fun h248 => ?_)
          · refine R_iinc [_, _, _, _, _, _, _, _, _, _, _, _, _, _] 279 rfl dX11_worth_276 rfl rfl (by decide) ?_
            refine R_goto 50 rfl dX11_worth_279 ?_
            first
              | (exfalso; omega)
              | (refine w_3 kn yr w _ _ hR ho ⟨hf.tr f273.m, f273.z hZ, ?_, by omega, ?_, ?_⟩
                 · rw [ws]; exact r273
                 · intro q; have := n0; omega
                 · intro q; have := n1; omega)
              | (refine w_3 kn yr w _ _ hR ho ⟨hf, hZ, ?_, by omega, ?_, ?_⟩
                 · have c0 : c = 0 := by omega
                   rw [ws, c0]
                   simpa using hr
                 · intro q; have := n0; omega
                 · intro q; have := n1; omega)
          · refine R_aload_n 252 rfl dX11_worth_251 rfl ?_
            refine R_iload 254 rfl dX11_worth_252 rfl ?_
            refine R_if_eq 257 263 rfl rfl dX11_worth_254 (by first | assumption | exact ⟨by omega, by omega⟩) (fun h254 => ?_) (fun h254 => ?_)
            · exact absurd h254 (by omega)
            refine R_iload 259 rfl dX11_worth_257 rfl ?_
            refine R_iconst 260 rfl dX11_worth_259 ?_
            refine R_icmp_ne 263 268 rfl rfl dX11_worth_260 (by first | assumption | exact ⟨by omega, by omega⟩) (by first | assumption | exact ⟨by omega, by omega⟩) (fun h260 => ?_) (fun h260 => ?_)
            rotate_left
            · exact absurd h260 (by omega)
            refine R_lload 270 rfl dX11_worth_268 rfl ?_
            refine R_lneg 271 rfl dX11_worth_270 ?_
            refine R_lload 273 rfl dX11_worth_271 rfl ?_
            refine R_callV_V (M' := mX11_plus) 276 rfl dX11_worth_273 ml_X11_310 kmX11_plus im_X11_plus se_X11_plus rfl ⟨by decide, rfl⟩ (c_X11_plus (weN (qtM L B ch kn.toNat yr) (qtB L B ch kn.toNat yr) 2) (weD (qtM L B ch kn.toNat yr)) _ _ (weQ (qtM L B ch kn.toNat yr) 1) hr ⟨d1.1, by omega⟩ (by omega) (by rw [en, weD_q _ 1 (by omega), we, if_neg (by omega)]) ⟨by omega, by omega⟩ (by rw [← ws]; exact ⟨by omega, by omega⟩)) rfl rfl ⟨Nat.le_of_ble_eq_true rfl, Nat.le_of_ble_eq_true rfl⟩ (Nat.le_of_ble_eq_true rfl) ⟨Nat.le_of_ble_eq_true rfl, Nat.le_of_ble_eq_true rfl⟩ ?_
            rintro m273 h273
            obtain ⟨f273, r273⟩ := h273
            refine R_iinc [_, _, _, _, _, _, _, _, _, _, _, _, _, _] 279 rfl dX11_worth_276 rfl rfl (by decide) ?_
            refine R_goto 50 rfl dX11_worth_279 ?_
            first
              | (exfalso; omega)
              | (refine w_3 kn yr w _ _ hR ho ⟨hf.tr f273.m, f273.z hZ, ?_, by omega, ?_, ?_⟩
                 · rw [ws]; exact r273
                 · intro q; have := n0; omega
                 · intro q; have := n1; omega)
              | (refine w_3 kn yr w _ _ hR ho ⟨hf, hZ, ?_, by omega, ?_, ?_⟩
                 · have c0 : c = 0 := by omega
                   rw [ws, c0]
                   simpa using hr
                 · intro q; have := n0; omega
                 · intro q; have := n1; omega)
        · refine R_iconst 238 rfl dX11_worth_237 ?_
          refine R_goto 242 rfl dX11_worth_238 ?_
          refine R_istore [_, _, _, _, _, _, _, _, _, _, _, _, _, _] 244 rfl dX11_worth_242 rfl (by decide) ?_
          refine R_lload 246 rfl dX11_worth_244 rfl ?_
          refine R_lconst 247 rfl dX11_worth_246 ?_
          refine R_topL (b := 0) rfl ?_
          refine R_lif_le 248 251 276 rfl rfl rfl dX11_worth_247 dX11_worth_248 (by first | assumption | exact ⟨by omega, by omega⟩ | exact rg_L (by assumption)) (by first | assumption | exact ⟨by omega, by omega⟩ | exact rg_L (by assumption)) (fun h248 => ?_) (fun h248 => ?_)
          · refine R_iinc [_, _, _, _, _, _, _, _, _, _, _, _, _, _] 279 rfl dX11_worth_276 rfl rfl (by decide) ?_
            refine R_goto 50 rfl dX11_worth_279 ?_
            first
              | (exfalso; omega)
              | (refine w_3 kn yr w _ _ hR ho ⟨hf.tr f273.m, f273.z hZ, ?_, by omega, ?_, ?_⟩
                 · rw [ws]; exact r273
                 · intro q; have := n0; omega
                 · intro q; have := n1; omega)
              | (refine w_3 kn yr w _ _ hR ho ⟨hf, hZ, ?_, by omega, ?_, ?_⟩
                 · have c0 : c = 0 := by omega
                   rw [ws, c0]
                   simpa using hr
                 · intro q; have := n0; omega
                 · intro q; have := n1; omega)
          · refine R_aload_n 252 rfl dX11_worth_251 rfl ?_
            refine R_iload 254 rfl dX11_worth_252 rfl ?_
            refine R_if_eq 257 263 rfl rfl dX11_worth_254 (by first | assumption | exact ⟨by omega, by omega⟩) (fun h254 => ?_) (fun h254 => ?_)
            · exact absurd h254 (by omega)
            refine R_iload 259 rfl dX11_worth_257 rfl ?_
            refine R_iconst 260 rfl dX11_worth_259 ?_
            refine R_icmp_ne 263 268 rfl rfl dX11_worth_260 (by first | assumption | exact ⟨by omega, by omega⟩) (by first | assumption | exact ⟨by omega, by omega⟩) (fun h260 => ?_) (fun h260 => ?_)
            rotate_left
            · exact absurd h260 (by omega)
            refine R_lload 270 rfl dX11_worth_268 rfl ?_
            refine R_lneg 271 rfl dX11_worth_270 ?_
            refine R_lload 273 rfl dX11_worth_271 rfl ?_
            refine R_callV_V (M' := mX11_plus) 276 rfl dX11_worth_273 ml_X11_310 kmX11_plus im_X11_plus se_X11_plus rfl ⟨by decide, rfl⟩ (c_X11_plus (weN (qtM L B ch kn.toNat yr) (qtB L B ch kn.toNat yr) 2) (weD (qtM L B ch kn.toNat yr)) _ _ (weQ (qtM L B ch kn.toNat yr) 1) hr ⟨d1.1, by omega⟩ (by omega) (by rw [en, weD_q _ 1 (by omega), we, if_neg (by omega)]) ⟨by omega, by omega⟩ (by rw [← ws]; exact ⟨by omega, by omega⟩)) rfl rfl ⟨Nat.le_of_ble_eq_true rfl, Nat.le_of_ble_eq_true rfl⟩ (Nat.le_of_ble_eq_true rfl) ⟨Nat.le_of_ble_eq_true rfl, Nat.le_of_ble_eq_true rfl⟩ ?_
            rintro m273 h273
            obtain ⟨f273, r273⟩ := h273
            refine R_iinc [_, _, _, _, _, _, _, _, _, _, _, _, _, _] 279 rfl dX11_worth_276 rfl rfl (by decide) ?_
            refine R_goto 50 rfl dX11_worth_279 ?_
            first
              | (exfalso; omega)
              | (refine w_3 kn yr w _ _ hR ho ⟨hf.tr f273.m, f273.z hZ, ?_, by omega, ?_, ?_⟩
                 · rw [ws]; exact r273
                 · intro q; have := n0; omega
                 · intro q; have := n1; omega)
              | (refine w_3 kn yr w _ _ hR ho ⟨hf, hZ, ?_, by omega, ?_, ?_⟩
                 · have c0 : c = 0 := by omega
                   rw [ws, c0]
                   simpa using hr
                 · intro q; have := n0; omega
                 · intro q; have := n1; omega)
    · have g4 := hO.2.1 (k / 2) (by omega)
      have p4 := hR.2.2.1.2.2.1 (B.2.1 0 (k / 2)).toNat (by omega)
      have e1 := qtP_iff2 (L := L) (B := B) (ch := ch) (kn := kn.toNat) (g := 1) (k := k) (yr := yr)
      have e2 := qtQ_iff2 (L := L) (B := B) (ch := ch) (kn := kn.toNat) (g := 1) (k := k) (yr := yr)
      have c1 := cnt_pI (qtP L B ch kn.toNat yr 1) k
      have c2 := cnt_pI (qtQ L B ch kn.toNat yr 1) k
      have sr : L.2.1 (2 + kn.toNat) (B.2.1 0 (k / 2)).toNat = -4 ∨ (0 ≤ L.2.1 (2 + kn.toNat) (B.2.1 0 (k / 2)).toNat ∧ L.2.1 (2 + kn.toNat) (B.2.1 0 (k / 2)).toNat ≤ 89) := by
        rcases (show kn.toNat = 0 ∨ kn.toNat = 1 by omega) with q | q
        · rw [q]; exact p4.2.2.2.1
        · rw [q]; exact p4.2.2.2.2
      have qg : (0 ≤ L.2.1 (2 + kn.toNat) (B.2.1 0 (k / 2)).toNat ∧ L.2.1 (2 + kn.toNat) (B.2.1 0 (k / 2)).toNat ≤ yr ∧ yr ≤ B.2.1 1 (k / 2) → qtG L B kn.toNat yr k = 3) ∧ (0 ≤ L.2.1 (2 + kn.toNat) (B.2.1 0 (k / 2)).toNat ∧ L.2.1 (2 + kn.toNat) (B.2.1 0 (k / 2)).toNat ≤ yr ∧ ¬ yr ≤ B.2.1 1 (k / 2) → qtG L B kn.toNat yr k = 2) ∧ (¬ (0 ≤ L.2.1 (2 + kn.toNat) (B.2.1 0 (k / 2)).toNat ∧ L.2.1 (2 + kn.toNat) (B.2.1 0 (k / 2)).toNat ≤ yr) ∧ yr ≤ B.2.1 1 (k / 2) → qtG L B kn.toNat yr k = 1) ∧ (¬ (0 ≤ L.2.1 (2 + kn.toNat) (B.2.1 0 (k / 2)).toNat ∧ L.2.1 (2 + kn.toNat) (B.2.1 0 (k / 2)).toNat ≤ yr) ∧ ¬ yr ≤ B.2.1 1 (k / 2) → qtG L B kn.toNat yr k = 0) := by
        unfold qtG
        refine ⟨fun q => ?_, fun q => ?_, fun q => ?_, fun q => ?_⟩
        · rw [if_pos ⟨q.1, q.2.1⟩, if_pos q.2.2]; rfl
        · rw [if_pos ⟨q.1, q.2.1⟩, if_neg q.2.2]; rfl
        · rw [if_neg q.1, if_pos q.2]; rfl
        · rw [if_neg q.1, if_neg q.2]; rfl
      refine R_aload_n 77 rfl dX11_worth_76 rfl ?_
      refine R_aload_n 78 rfl dX11_worth_77 rfl ?_
      refine R_iload 80 rfl dX11_worth_78 rfl ?_
      refine R_iconst 81 rfl dX11_worth_80 ?_
      refine R_idiv_p 82 rfl dX11_worth_81 (by first | assumption | exact ⟨by omega, by omega⟩) (by first | assumption | exact ⟨by omega, by omega⟩) (by omega) (by omega) ?_
      refine R_iconst 83 rfl dX11_worth_82 ?_
      refine R_callV_i (M' := mX11_its) 86 rfl dX11_worth_83 ml_X11_153 kmX11_its im_X11_its se_X11_its rfl ⟨by decide, rfl⟩ (c_X11_its _ _ (k / 2) 0 hZ.1 (by omega) (by omega) (by omega) (by omega)) rfl rfl ⟨Nat.le_of_ble_eq_true rfl, Nat.le_of_ble_eq_true rfl⟩ (Nat.le_of_ble_eq_true rfl) ⟨Nat.le_of_ble_eq_true rfl, Nat.le_of_ble_eq_true rfl⟩ ?_
      refine R_iconst 87 rfl dX11_worth_86 ?_
      refine R_iload_n 88 rfl dX11_worth_87 rfl ?_
      refine R_iadd 89 rfl dX11_worth_88 ?_
      refine R_callV_i (M' := mX11_parishOf) 92 rfl dX11_worth_89 ml_X11_156 kmX11_parishOf im_X11_parishOf se_X11_parishOf rfl ⟨by decide, rfl⟩ (c_X11_parishOf _ _ (B.2.1 0 (k / 2)).toNat (2 + kn.toNat) hZ.1 (by omega) (by omega) (by omega) (by omega)) rfl rfl ⟨Nat.le_of_ble_eq_true rfl, Nat.le_of_ble_eq_true rfl⟩ (Nat.le_of_ble_eq_true rfl) ⟨Nat.le_of_ble_eq_true rfl, Nat.le_of_ble_eq_true rfl⟩ ?_
      refine R_istore [_, _, _, _, _, _, _, _, _, _, _, _, _, _] 94 rfl dX11_worth_92 rfl (by decide) ?_
      refine R_iload 96 rfl dX11_worth_94 rfl ?_
      refine R_bipush 98 rfl dX11_worth_96 (by decide) ?_
      refine R_icmp_eq 101 111 rfl rfl dX11_worth_98 (by first | assumption | exact ⟨by omega, by omega⟩) (by first | assumption | exact ⟨by omega, by omega⟩) (fun h98 => ?_) (fun h98 => ?_)
      · refine R_iconst 112 rfl dX11_worth_111 ?_
        refine R_istore [_, _, _, _, _, _, _, _, _, _, _, _, _, _] 114 rfl dX11_worth_112 rfl (by decide) ?_
        refine R_aload_n 115 rfl dX11_worth_114 rfl ?_
        refine R_iconst 116 rfl dX11_worth_115 ?_
        refine R_iload 118 rfl dX11_worth_116 rfl ?_
        refine R_callV_i (M' := mX11_isIn) 121 rfl dX11_worth_118 ml_X11_240 kmX11_isIn im_X11_isIn se_X11_isIn rfl ⟨by decide, rfl⟩ (c_X11_isIn _ _ 0 k hW rfl (by decide) (by omega) (by omega)) rfl rfl ⟨Nat.le_of_ble_eq_true rfl, Nat.le_of_ble_eq_true rfl⟩ (Nat.le_of_ble_eq_true rfl) ⟨Nat.le_of_ble_eq_true rfl, Nat.le_of_ble_eq_true rfl⟩ ?_
        refine R_ifp_eq 124 177 rfl rfl dX11_worth_121 (fun h121 => ?_) (fun h121 => ?_)
        · refine R_iconst 178 rfl dX11_worth_177 ?_
          refine R_istore [_, _, _, _, _, _, _, _, _, _, _, _, _, _] 180 rfl dX11_worth_178 rfl (by decide) ?_
          refine R_lload 182 rfl dX11_worth_180 rfl ?_
          refine R_iload 184 rfl dX11_worth_182 rfl ?_
          refine R_if_eq 187 191 rfl rfl dX11_worth_184 (by first | assumption | exact ⟨by omega, by omega⟩) (fun h184 => ?_) (fun h184 => ?_)
          rotate_left
          · exact absurd h184 (by omega)
          refine R_lconst 192 rfl dX11_worth_191 ?_
          refine R_topL (b := 0) rfl ?_
          refine R_ladd 193 rfl dX11_worth_192 ?_
          refine R_lstore [_, _, _, _, _, _, _, _, _, _, _, _, _, _] 195 rfl dX11_worth_193 rfl (by decide) ?_
          refine R_lload 197 rfl dX11_worth_195 rfl ?_
          refine R_iload 199 rfl dX11_worth_197 rfl ?_
          refine R_if_eq 202 215 rfl rfl dX11_worth_199 (by first | assumption | exact ⟨by omega, by omega⟩) (fun h199 => ?_) (fun h199 => ?_)
          rotate_left
          · exact absurd h199 (by omega)
          refine R_lconst 216 rfl dX11_worth_215 ?_
          refine R_topL (b := 0) rfl ?_
          refine R_ladd 217 rfl dX11_worth_216 ?_
          refine R_lstore [_, _, _, _, _, _, _, _, _, _, _, _, _, _] 219 rfl dX11_worth_217 rfl (by decide) ?_
          refine R_iinc [_, _, _, _, _, _, _, _, _, _, _, _, _, _] 222 rfl dX11_worth_219 rfl rfl (by decide) ?_
          refine R_goto 65 rfl dX11_worth_222 ?_
          first
            | (have y1 : qtP L B ch kn.toNat yr 1 k = true := e1.mpr ⟨h121, by omega⟩
               rw [pI_t y1] at c1
               first
                 | (rw [pI_t (e2.mpr ⟨y1, h208⟩)] at c2
                    exact ih (by omega) _ _ _ _ _ _ (by omega) (by omega) (by omega))
                 | (rw [pI_f (fun q => h208 (e2.mp q).2)] at c2
                    exact ih (by omega) _ _ _ _ _ _ (by omega) (by omega) (by omega)))
            | (have y1 : ¬ qtP L B ch kn.toNat yr 1 k = true := fun q => by have q2 := e1.mp q; first | exact h121 q2.1 | (have q3 := q2.2; omega)
               rw [pI_f y1] at c1
               rw [pI_f (fun q => y1 (e2.mp q).1)] at c2
               exact ih (by omega) _ _ _ _ _ _ (by omega) (by omega) (by omega))
        · refine R_iload 126 rfl dX11_worth_124 rfl ?_
          refine R_iload 128 rfl dX11_worth_126 rfl ?_
          refine R_iconst 129 rfl dX11_worth_128 ?_
          refine R_icmp_ge 132 136 rfl rfl dX11_worth_129 (by first | assumption | exact ⟨by omega, by omega⟩) (by first | assumption | exact ⟨by omega, by omega⟩) (fun h129 => ?_) (fun h129 => ?_)
          rotate_left
          · exact absurd h129 (by omega)
          refine R_iconst 137 rfl dX11_worth_136 ?_
          refine R_icmp_ne 140 177 rfl rfl dX11_worth_137 (by first | assumption | exact ⟨by omega, by omega⟩) (by first | assumption | exact ⟨by omega, by omega⟩) (fun h137 => ?_) (fun h137 => ?_)
          · exact absurd h137 (by omega)
          refine R_aload_n 141 rfl dX11_worth_140 rfl ?_
          refine R_iload 143 rfl dX11_worth_141 rfl ?_
          refine R_iconst 144 rfl dX11_worth_143 ?_
          refine R_idiv_p 145 rfl dX11_worth_144 (by first | assumption | exact ⟨by omega, by omega⟩) (by first | assumption | exact ⟨by omega, by omega⟩) (by omega) (by omega) ?_
          refine R_iconst 146 rfl dX11_worth_145 ?_
          refine R_callV_i (M' := mX11_its) 149 rfl dX11_worth_146 ml_X11_153 kmX11_its im_X11_its se_X11_its rfl ⟨by decide, rfl⟩ (c_X11_its _ _ (k / 2) 1 hZ.1 (by omega) (by omega) (by omega) (by omega)) rfl rfl ⟨Nat.le_of_ble_eq_true rfl, Nat.le_of_ble_eq_true rfl⟩ (Nat.le_of_ble_eq_true rfl) ⟨Nat.le_of_ble_eq_true rfl, Nat.le_of_ble_eq_true rfl⟩ ?_
          refine R_iload_n 150 rfl dX11_worth_149 rfl ?_
          refine R_icmp_lt 153 157 rfl rfl dX11_worth_150 (by first | assumption | exact ⟨by omega, by omega⟩) (by first | assumption | exact ⟨by omega, by omega⟩) (fun h150 => ?_) (fun h150 => ?_)
          · refine R_iconst 158 rfl dX11_worth_157 ?_
            refine R_iload 160 rfl dX11_worth_158 rfl ?_
            refine R_iconst 161 rfl dX11_worth_160 ?_
            refine R_irem_p 162 rfl dX11_worth_161 (by first | assumption | exact ⟨by omega, by omega⟩) (by first | assumption | exact ⟨by omega, by omega⟩) (by omega) (by omega) ?_
            refine R_if_ne 165 169 rfl rfl dX11_worth_162 (by first | assumption | exact ⟨by omega, by omega⟩) (fun h162 => ?_) (fun h162 => ?_)
            · exact absurd h162 (by omega)
            refine R_iconst 166 rfl dX11_worth_165 ?_
            refine R_goto 170 rfl dX11_worth_166 ?_
            refine R_icmp_ne 173 177 rfl rfl dX11_worth_170 (by first | assumption | exact ⟨by omega, by omega⟩) (by first | assumption | exact ⟨by omega, by omega⟩) (fun h170 => ?_) (fun h170 => ?_)
            rotate_left
            · exact absurd h170 (by omega)
            refine R_iconst 178 rfl dX11_worth_177 ?_
            refine R_istore [_, _, _, _, _, _, _, _, _, _, _, _, _, _] 180 rfl dX11_worth_178 rfl (by decide) ?_
            refine R_lload 182 rfl dX11_worth_180 rfl ?_
            refine R_iload 184 rfl dX11_worth_182 rfl ?_
            refine R_if_eq 187 191 rfl rfl dX11_worth_184 (by first | assumption | exact ⟨by omega, by omega⟩) (fun h184 => ?_) (fun h184 => ?_)
            rotate_left
            · exact absurd h184 (by omega)
            refine R_lconst 192 rfl dX11_worth_191 ?_
            refine R_topL (b := 0) rfl ?_
            refine R_ladd 193 rfl dX11_worth_192 ?_
            refine R_lstore [_, _, _, _, _, _, _, _, _, _, _, _, _, _] 195 rfl dX11_worth_193 rfl (by decide) ?_
            refine R_lload 197 rfl dX11_worth_195 rfl ?_
            refine R_iload 199 rfl dX11_worth_197 rfl ?_
            refine R_if_eq 202 215 rfl rfl dX11_worth_199 (by first | assumption | exact ⟨by omega, by omega⟩) (fun h199 => ?_) (fun h199 => ?_)
            rotate_left
            · exact absurd h199 (by omega)
            refine R_lconst 216 rfl dX11_worth_215 ?_
            refine R_topL (b := 0) rfl ?_
            refine R_ladd 217 rfl dX11_worth_216 ?_
            refine R_lstore [_, _, _, _, _, _, _, _, _, _, _, _, _, _] 219 rfl dX11_worth_217 rfl (by decide) ?_
            refine R_iinc [_, _, _, _, _, _, _, _, _, _, _, _, _, _] 222 rfl dX11_worth_219 rfl rfl (by decide) ?_
            refine R_goto 65 rfl dX11_worth_222 ?_
            first
              | (have y1 : qtP L B ch kn.toNat yr 1 k = true := e1.mpr ⟨h121, by omega⟩
                 rw [pI_t y1] at c1
                 first
                   | (rw [pI_t (e2.mpr ⟨y1, h208⟩)] at c2
                      exact ih (by omega) _ _ _ _ _ _ (by omega) (by omega) (by omega))
                   | (rw [pI_f (fun q => h208 (e2.mp q).2)] at c2
                      exact ih (by omega) _ _ _ _ _ _ (by omega) (by omega) (by omega)))
              | (have y1 : ¬ qtP L B ch kn.toNat yr 1 k = true := fun q => by have q2 := e1.mp q; first | exact h121 q2.1 | (have q3 := q2.2; omega)
                 rw [pI_f y1] at c1
                 rw [pI_f (fun q => y1 (e2.mp q).1)] at c2
                 exact ih (by omega) _ _ _ _ _ _ (by omega) (by omega) (by omega))
          · refine R_iconst 154 rfl dX11_worth_153 ?_
            refine R_goto 158 rfl dX11_worth_154 ?_
            refine R_iload 160 rfl dX11_worth_158 rfl ?_
            refine R_iconst 161 rfl dX11_worth_160 ?_
            refine R_irem_p 162 rfl dX11_worth_161 (by first | assumption | exact ⟨by omega, by omega⟩) (by first | assumption | exact ⟨by omega, by omega⟩) (by omega) (by omega) ?_
            refine R_if_ne 165 169 rfl rfl dX11_worth_162 (by first | assumption | exact ⟨by omega, by omega⟩) (fun h162 => ?_) (fun h162 => ?_)
            · exact absurd h162 (by omega)
            refine R_iconst 166 rfl dX11_worth_165 ?_
            refine R_goto 170 rfl dX11_worth_166 ?_
            refine R_icmp_ne 173 177 rfl rfl dX11_worth_170 (by first | assumption | exact ⟨by omega, by omega⟩) (by first | assumption | exact ⟨by omega, by omega⟩) (fun h170 => ?_) (fun h170 => ?_)
            · exact absurd h170 (by omega)
            refine R_iconst 174 rfl dX11_worth_173 ?_
            refine R_goto 178 rfl dX11_worth_174 ?_
            refine R_istore [_, _, _, _, _, _, _, _, _, _, _, _, _, _] 180 rfl dX11_worth_178 rfl (by decide) ?_
            refine R_lload 182 rfl dX11_worth_180 rfl ?_
            refine R_iload 184 rfl dX11_worth_182 rfl ?_
            refine R_if_eq 187 191 rfl rfl dX11_worth_184 (by first | assumption | exact ⟨by omega, by omega⟩) (fun h184 => ?_) (fun h184 => ?_)
            · exact absurd h184 (by omega)
            refine R_lconst 188 rfl dX11_worth_187 ?_
            refine R_topL (b := 1) rfl ?_
            refine R_goto 192 rfl dX11_worth_188 ?_
            refine R_ladd 193 rfl dX11_worth_192 ?_
            refine R_lstore [_, _, _, _, _, _, _, _, _, _, _, _, _, _] 195 rfl dX11_worth_193 rfl (by decide) ?_
            refine R_lload 197 rfl dX11_worth_195 rfl ?_
            refine R_iload 199 rfl dX11_worth_197 rfl ?_
            refine R_if_eq 202 215 rfl rfl dX11_worth_199 (by first | assumption | exact ⟨by omega, by omega⟩) (fun h199 => ?_) (fun h199 => ?_)
            · exact absurd h199 (by omega)
            refine R_aload_n 203 rfl dX11_worth_202 rfl ?_
            refine R_iload 205 rfl dX11_worth_203 rfl ?_
            refine R_callV_i (M' := mX11_isAble) 208 rfl dX11_worth_205 ml_X11_246 kmX11_isAble im_X11_isAble se_X11_isAble rfl ⟨by decide, rfl⟩ (c_X11_isAble _ k hZ (by omega) (by omega)) rfl rfl ⟨Nat.le_of_ble_eq_true rfl, Nat.le_of_ble_eq_true rfl⟩ (Nat.le_of_ble_eq_true rfl) ⟨Nat.le_of_ble_eq_true rfl, Nat.le_of_ble_eq_true rfl⟩ ?_
            refine R_ifp_eq 211 215 rfl rfl dX11_worth_208 (fun h208 => ?_) (fun h208 => ?_)
            · refine R_lconst 216 rfl dX11_worth_215 ?_
              refine R_topL (b := 0) rfl ?_
              refine R_ladd 217 rfl dX11_worth_216 ?_
              refine R_lstore [_, _, _, _, _, _, _, _, _, _, _, _, _, _] 219 rfl dX11_worth_217 rfl (by decide) ?_
              refine R_iinc [_, _, _, _, _, _, _, _, _, _, _, _, _, _] 222 rfl dX11_worth_219 rfl rfl (by decide) ?_
              refine R_goto 65 rfl dX11_worth_222 ?_
              first
                | (have y1 : qtP L B ch kn.toNat yr 1 k = true := e1.mpr ⟨h121, by omega⟩
                   rw [pI_t y1] at c1
                   first
                     | (rw [pI_t (e2.mpr ⟨y1, h208⟩)] at c2
                        exact ih (by omega) _ _ _ _ _ _ (by omega) (by omega) (by omega))
                     | (rw [pI_f (fun q => h208 (e2.mp q).2)] at c2
                        exact ih (by omega) _ _ _ _ _ _ (by omega) (by omega) (by omega)))
                | (have y1 : ¬ qtP L B ch kn.toNat yr 1 k = true := fun q => by have q2 := e1.mp q; first | exact h121 q2.1 | (have q3 := q2.2; omega)
                   rw [pI_f y1] at c1
                   rw [pI_f (fun q => y1 (e2.mp q).1)] at c2
                   exact ih (by omega) _ _ _ _ _ _ (by omega) (by omega) (by omega))
            · refine R_lconst 212 rfl dX11_worth_211 ?_
              refine R_topL (b := 1) rfl ?_
              refine R_goto 216 rfl dX11_worth_212 ?_
              refine R_ladd 217 rfl dX11_worth_216 ?_
              refine R_lstore [_, _, _, _, _, _, _, _, _, _, _, _, _, _] 219 rfl dX11_worth_217 rfl (by decide) ?_
              refine R_iinc [_, _, _, _, _, _, _, _, _, _, _, _, _, _] 222 rfl dX11_worth_219 rfl rfl (by decide) ?_
              refine R_goto 65 rfl dX11_worth_222 ?_
              first
                | (have y1 : qtP L B ch kn.toNat yr 1 k = true := e1.mpr ⟨h121, by omega⟩
                   rw [pI_t y1] at c1
                   first
                     | (rw [pI_t (e2.mpr ⟨y1, h208⟩)] at c2
                        exact ih (by omega) _ _ _ _ _ _ (by omega) (by omega) (by omega))
                     | (rw [pI_f (fun q => h208 (e2.mp q).2)] at c2
                        exact ih (by omega) _ _ _ _ _ _ (by omega) (by omega) (by omega)))
                | (have y1 : ¬ qtP L B ch kn.toNat yr 1 k = true := fun q => by have q2 := e1.mp q; first | exact h121 q2.1 | (have q3 := q2.2; omega)
                   rw [pI_f y1] at c1
                   rw [pI_f (fun q => y1 (e2.mp q).1)] at c2
                   exact ih (by omega) _ _ _ _ _ _ (by omega) (by omega) (by omega))
      · refine R_iload 103 rfl dX11_worth_101 rfl ?_
        refine R_iload_n 104 rfl dX11_worth_103 rfl ?_
        refine R_icmp_gt 107 111 rfl rfl dX11_worth_104 (by first | assumption | exact ⟨by omega, by omega⟩) (by first | assumption | exact ⟨by omega, by omega⟩) (fun h104 => ?_) (fun h104 => ?_)
        · refine R_iconst 112 rfl dX11_worth_111 ?_
          refine R_istore [_, _, _, _, _, _, _, _, _, _, _, _, _, _] 114 rfl dX11_worth_112 rfl (by decide) ?_
          refine R_aload_n 115 rfl dX11_worth_114 rfl ?_
          refine R_iconst 116 rfl dX11_worth_115 ?_
          refine R_iload 118 rfl dX11_worth_116 rfl ?_
          refine R_callV_i (M' := mX11_isIn) 121 rfl dX11_worth_118 ml_X11_240 kmX11_isIn im_X11_isIn se_X11_isIn rfl ⟨by decide, rfl⟩ (c_X11_isIn _ _ 0 k hW rfl (by decide) (by omega) (by omega)) rfl rfl ⟨Nat.le_of_ble_eq_true rfl, Nat.le_of_ble_eq_true rfl⟩ (Nat.le_of_ble_eq_true rfl) ⟨Nat.le_of_ble_eq_true rfl, Nat.le_of_ble_eq_true rfl⟩ ?_
          refine R_ifp_eq 124 177 rfl rfl dX11_worth_121 (fun h121 => ?_) (fun h121 => ?_)
          · refine R_iconst 178 rfl dX11_worth_177 ?_
            refine R_istore [_, _, _, _, _, _, _, _, _, _, _, _, _, _] 180 rfl dX11_worth_178 rfl (by decide) ?_
            refine R_lload 182 rfl dX11_worth_180 rfl ?_
            refine R_iload 184 rfl dX11_worth_182 rfl ?_
            refine R_if_eq 187 191 rfl rfl dX11_worth_184 (by first | assumption | exact ⟨by omega, by omega⟩) (fun h184 => ?_) (fun h184 => ?_)
            rotate_left
            · exact absurd h184 (by omega)
            refine R_lconst 192 rfl dX11_worth_191 ?_
            refine R_topL (b := 0) rfl ?_
            refine R_ladd 193 rfl dX11_worth_192 ?_
            refine R_lstore [_, _, _, _, _, _, _, _, _, _, _, _, _, _] 195 rfl dX11_worth_193 rfl (by decide) ?_
            refine R_lload 197 rfl dX11_worth_195 rfl ?_
            refine R_iload 199 rfl dX11_worth_197 rfl ?_
            refine R_if_eq 202 215 rfl rfl dX11_worth_199 (by first | assumption | exact ⟨by omega, by omega⟩) (fun h199 => ?_) (fun h199 => ?_)
            rotate_left
            · exact absurd h199 (by omega)
            refine R_lconst 216 rfl dX11_worth_215 ?_
            refine R_topL (b := 0) rfl ?_
            refine R_ladd 217 rfl dX11_worth_216 ?_
            refine R_lstore [_, _, _, _, _, _, _, _, _, _, _, _, _, _] 219 rfl dX11_worth_217 rfl (by decide) ?_
            refine R_iinc [_, _, _, _, _, _, _, _, _, _, _, _, _, _] 222 rfl dX11_worth_219 rfl rfl (by decide) ?_
            refine R_goto 65 rfl dX11_worth_222 ?_
            first
              | (have y1 : qtP L B ch kn.toNat yr 1 k = true := e1.mpr ⟨h121, by omega⟩
                 rw [pI_t y1] at c1
                 first
                   | (rw [pI_t (e2.mpr ⟨y1, h208⟩)] at c2
                      exact ih (by omega) _ _ _ _ _ _ (by omega) (by omega) (by omega))
                   | (rw [pI_f (fun q => h208 (e2.mp q).2)] at c2
                      exact ih (by omega) _ _ _ _ _ _ (by omega) (by omega) (by omega)))
              | (have y1 : ¬ qtP L B ch kn.toNat yr 1 k = true := fun q => by have q2 := e1.mp q; first | exact h121 q2.1 | (have q3 := q2.2; omega)
                 rw [pI_f y1] at c1
                 rw [pI_f (fun q => y1 (e2.mp q).1)] at c2
                 exact ih (by omega) _ _ _ _ _ _ (by omega) (by omega) (by omega))
          · refine R_iload 126 rfl dX11_worth_124 rfl ?_
            refine R_iload 128 rfl dX11_worth_126 rfl ?_
            refine R_iconst 129 rfl dX11_worth_128 ?_
            refine R_icmp_ge 132 136 rfl rfl dX11_worth_129 (by first | assumption | exact ⟨by omega, by omega⟩) (by first | assumption | exact ⟨by omega, by omega⟩) (fun h129 => ?_) (fun h129 => ?_)
            rotate_left
            · exact absurd h129 (by omega)
            refine R_iconst 137 rfl dX11_worth_136 ?_
            refine R_icmp_ne 140 177 rfl rfl dX11_worth_137 (by first | assumption | exact ⟨by omega, by omega⟩) (by first | assumption | exact ⟨by omega, by omega⟩) (fun h137 => ?_) (fun h137 => ?_)
            · exact absurd h137 (by omega)
            refine R_aload_n 141 rfl dX11_worth_140 rfl ?_
            refine R_iload 143 rfl dX11_worth_141 rfl ?_
            refine R_iconst 144 rfl dX11_worth_143 ?_
            refine R_idiv_p 145 rfl dX11_worth_144 (by first | assumption | exact ⟨by omega, by omega⟩) (by first | assumption | exact ⟨by omega, by omega⟩) (by omega) (by omega) ?_
            refine R_iconst 146 rfl dX11_worth_145 ?_
            refine R_callV_i (M' := mX11_its) 149 rfl dX11_worth_146 ml_X11_153 kmX11_its im_X11_its se_X11_its rfl ⟨by decide, rfl⟩ (c_X11_its _ _ (k / 2) 1 hZ.1 (by omega) (by omega) (by omega) (by omega)) rfl rfl ⟨Nat.le_of_ble_eq_true rfl, Nat.le_of_ble_eq_true rfl⟩ (Nat.le_of_ble_eq_true rfl) ⟨Nat.le_of_ble_eq_true rfl, Nat.le_of_ble_eq_true rfl⟩ ?_
            refine R_iload_n 150 rfl dX11_worth_149 rfl ?_
            refine R_icmp_lt 153 157 rfl rfl dX11_worth_150 (by first | assumption | exact ⟨by omega, by omega⟩) (by first | assumption | exact ⟨by omega, by omega⟩) (fun h150 => ?_) (fun h150 => ?_)
            · refine R_iconst 158 rfl dX11_worth_157 ?_
              refine R_iload 160 rfl dX11_worth_158 rfl ?_
              refine R_iconst 161 rfl dX11_worth_160 ?_
              refine R_irem_p 162 rfl dX11_worth_161 (by first | assumption | exact ⟨by omega, by omega⟩) (by first | assumption | exact ⟨by omega, by omega⟩) (by omega) (by omega) ?_
              refine R_if_ne 165 169 rfl rfl dX11_worth_162 (by first | assumption | exact ⟨by omega, by omega⟩) (fun h162 => ?_) (fun h162 => ?_)
              · exact absurd h162 (by omega)
              refine R_iconst 166 rfl dX11_worth_165 ?_
              refine R_goto 170 rfl dX11_worth_166 ?_
              refine R_icmp_ne 173 177 rfl rfl dX11_worth_170 (by first | assumption | exact ⟨by omega, by omega⟩) (by first | assumption | exact ⟨by omega, by omega⟩) (fun h170 => ?_) (fun h170 => ?_)
              rotate_left
              · exact absurd h170 (by omega)
              refine R_iconst 178 rfl dX11_worth_177 ?_
              refine R_istore [_, _, _, _, _, _, _, _, _, _, _, _, _, _] 180 rfl dX11_worth_178 rfl (by decide) ?_
              refine R_lload 182 rfl dX11_worth_180 rfl ?_
              refine R_iload 184 rfl dX11_worth_182 rfl ?_
              refine R_if_eq 187 191 rfl rfl dX11_worth_184 (by first | assumption | exact ⟨by omega, by omega⟩) (fun h184 => ?_) (fun h184 => ?_)
              rotate_left
              · exact absurd h184 (by omega)
              refine R_lconst 192 rfl dX11_worth_191 ?_
              refine R_topL (b := 0) rfl ?_
              refine R_ladd 193 rfl dX11_worth_192 ?_
              refine R_lstore [_, _, _, _, _, _, _, _, _, _, _, _, _, _] 195 rfl dX11_worth_193 rfl (by decide) ?_
              refine R_lload 197 rfl dX11_worth_195 rfl ?_
              refine R_iload 199 rfl dX11_worth_197 rfl ?_
              refine R_if_eq 202 215 rfl rfl dX11_worth_199 (by first | assumption | exact ⟨by omega, by omega⟩) (fun h199 => ?_) (fun h199 => ?_)
              rotate_left
              · exact absurd h199 (by omega)
              refine R_lconst 216 rfl dX11_worth_215 ?_
              refine R_topL (b := 0) rfl ?_
              refine R_ladd 217 rfl dX11_worth_216 ?_
              refine R_lstore [_, _, _, _, _, _, _, _, _, _, _, _, _, _] 219 rfl dX11_worth_217 rfl (by decide) ?_
              refine R_iinc [_, _, _, _, _, _, _, _, _, _, _, _, _, _] 222 rfl dX11_worth_219 rfl rfl (by decide) ?_
              refine R_goto 65 rfl dX11_worth_222 ?_
              first
                | (have y1 : qtP L B ch kn.toNat yr 1 k = true := e1.mpr ⟨h121, by omega⟩
                   rw [pI_t y1] at c1
                   first
                     | (rw [pI_t (e2.mpr ⟨y1, h208⟩)] at c2
                        exact ih (by omega) _ _ _ _ _ _ (by omega) (by omega) (by omega))
                     | (rw [pI_f (fun q => h208 (e2.mp q).2)] at c2
                        exact ih (by omega) _ _ _ _ _ _ (by omega) (by omega) (by omega)))
                | (have y1 : ¬ qtP L B ch kn.toNat yr 1 k = true := fun q => by have q2 := e1.mp q; first | exact h121 q2.1 | (have q3 := q2.2; omega)
                   rw [pI_f y1] at c1
                   rw [pI_f (fun q => y1 (e2.mp q).1)] at c2
                   exact ih (by omega) _ _ _ _ _ _ (by omega) (by omega) (by omega))
            · refine R_iconst 154 rfl dX11_worth_153 ?_
              refine R_goto 158 rfl dX11_worth_154 ?_
              refine R_iload 160 rfl dX11_worth_158 rfl ?_
              refine R_iconst 161 rfl dX11_worth_160 ?_
              refine R_irem_p 162 rfl dX11_worth_161 (by first | assumption | exact ⟨by omega, by omega⟩) (by first | assumption | exact ⟨by omega, by omega⟩) (by omega) (by omega) ?_
              refine R_if_ne 165 169 rfl rfl dX11_worth_162 (by first | assumption | exact ⟨by omega, by omega⟩) (fun h162 => ?_) (fun h162 => ?_)
              · exact absurd h162 (by omega)
              refine R_iconst 166 rfl dX11_worth_165 ?_
              refine R_goto 170 rfl dX11_worth_166 ?_
              refine R_icmp_ne 173 177 rfl rfl dX11_worth_170 (by first | assumption | exact ⟨by omega, by omega⟩) (by first | assumption | exact ⟨by omega, by omega⟩) (fun h170 => ?_) (fun h170 => ?_)
              · exact absurd h170 (by omega)
              refine R_iconst 174 rfl dX11_worth_173 ?_
              refine R_goto 178 rfl dX11_worth_174 ?_
              refine R_istore [_, _, _, _, _, _, _, _, _, _, _, _, _, _] 180 rfl dX11_worth_178 rfl (by decide) ?_
              refine R_lload 182 rfl dX11_worth_180 rfl ?_
              refine R_iload 184 rfl dX11_worth_182 rfl ?_
              refine R_if_eq 187 191 rfl rfl dX11_worth_184 (by first | assumption | exact ⟨by omega, by omega⟩) (fun h184 => ?_) (fun h184 => ?_)
              · exact absurd h184 (by omega)
              refine R_lconst 188 rfl dX11_worth_187 ?_
              refine R_topL (b := 1) rfl ?_
              refine R_goto 192 rfl dX11_worth_188 ?_
              refine R_ladd 193 rfl dX11_worth_192 ?_
              refine R_lstore [_, _, _, _, _, _, _, _, _, _, _, _, _, _] 195 rfl dX11_worth_193 rfl (by decide) ?_
              refine R_lload 197 rfl dX11_worth_195 rfl ?_
              refine R_iload 199 rfl dX11_worth_197 rfl ?_
              refine R_if_eq 202 215 rfl rfl dX11_worth_199 (by first | assumption | exact ⟨by omega, by omega⟩) (fun h199 => ?_) (fun h199 => ?_)
              · exact absurd h199 (by omega)
              refine R_aload_n 203 rfl dX11_worth_202 rfl ?_
              refine R_iload 205 rfl dX11_worth_203 rfl ?_
              refine R_callV_i (M' := mX11_isAble) 208 rfl dX11_worth_205 ml_X11_246 kmX11_isAble im_X11_isAble se_X11_isAble rfl ⟨by decide, rfl⟩ (c_X11_isAble _ k hZ (by omega) (by omega)) rfl rfl ⟨Nat.le_of_ble_eq_true rfl, Nat.le_of_ble_eq_true rfl⟩ (Nat.le_of_ble_eq_true rfl) ⟨Nat.le_of_ble_eq_true rfl, Nat.le_of_ble_eq_true rfl⟩ ?_
              refine R_ifp_eq 211 215 rfl rfl dX11_worth_208 (fun h208 => ?_) (fun h208 => ?_)
              · refine R_lconst 216 rfl dX11_worth_215 ?_
                refine R_topL (b := 0) rfl ?_
                refine R_ladd 217 rfl dX11_worth_216 ?_
                refine R_lstore [_, _, _, _, _, _, _, _, _, _, _, _, _, _] 219 rfl dX11_worth_217 rfl (by decide) ?_
                refine R_iinc [_, _, _, _, _, _, _, _, _, _, _, _, _, _] 222 rfl dX11_worth_219 rfl rfl (by decide) ?_
                refine R_goto 65 rfl dX11_worth_222 ?_
                first
                  | (have y1 : qtP L B ch kn.toNat yr 1 k = true := e1.mpr ⟨h121, by omega⟩
                     rw [pI_t y1] at c1
                     first
                       | (rw [pI_t (e2.mpr ⟨y1, h208⟩)] at c2
                          exact ih (by omega) _ _ _ _ _ _ (by omega) (by omega) (by omega))
                       | (rw [pI_f (fun q => h208 (e2.mp q).2)] at c2
                          exact ih (by omega) _ _ _ _ _ _ (by omega) (by omega) (by omega)))
                  | (have y1 : ¬ qtP L B ch kn.toNat yr 1 k = true := fun q => by have q2 := e1.mp q; first | exact h121 q2.1 | (have q3 := q2.2; omega)
                     rw [pI_f y1] at c1
                     rw [pI_f (fun q => y1 (e2.mp q).1)] at c2
                     exact ih (by omega) _ _ _ _ _ _ (by omega) (by omega) (by omega))
              · refine R_lconst 212 rfl dX11_worth_211 ?_
                refine R_topL (b := 1) rfl ?_
                refine R_goto 216 rfl dX11_worth_212 ?_
                refine R_ladd 217 rfl dX11_worth_216 ?_
                refine R_lstore [_, _, _, _, _, _, _, _, _, _, _, _, _, _] 219 rfl dX11_worth_217 rfl (by decide) ?_
                refine R_iinc [_, _, _, _, _, _, _, _, _, _, _, _, _, _] 222 rfl dX11_worth_219 rfl rfl (by decide) ?_
                refine R_goto 65 rfl dX11_worth_222 ?_
                first
                  | (have y1 : qtP L B ch kn.toNat yr 1 k = true := e1.mpr ⟨h121, by omega⟩
                     rw [pI_t y1] at c1
                     first
                       | (rw [pI_t (e2.mpr ⟨y1, h208⟩)] at c2
                          exact ih (by omega) _ _ _ _ _ _ (by omega) (by omega) (by omega))
                       | (rw [pI_f (fun q => h208 (e2.mp q).2)] at c2
                          exact ih (by omega) _ _ _ _ _ _ (by omega) (by omega) (by omega)))
                  | (have y1 : ¬ qtP L B ch kn.toNat yr 1 k = true := fun q => by have q2 := e1.mp q; first | exact h121 q2.1 | (have q3 := q2.2; omega)
                     rw [pI_f y1] at c1
                     rw [pI_f (fun q => y1 (e2.mp q).1)] at c2
                     exact ih (by omega) _ _ _ _ _ _ (by omega) (by omega) (by omega))
        · refine R_iconst 108 rfl dX11_worth_107 ?_
          refine R_goto 112 rfl dX11_worth_108 ?_
          refine R_istore [_, _, _, _, _, _, _, _, _, _, _, _, _, _] 114 rfl dX11_worth_112 rfl (by decide) ?_
          refine R_aload_n 115 rfl dX11_worth_114 rfl ?_
          refine R_iconst 116 rfl dX11_worth_115 ?_
          refine R_iload 118 rfl dX11_worth_116 rfl ?_
          refine R_callV_i (M' := mX11_isIn) 121 rfl dX11_worth_118 ml_X11_240 kmX11_isIn im_X11_isIn se_X11_isIn rfl ⟨by decide, rfl⟩ (c_X11_isIn _ _ 0 k hW rfl (by decide) (by omega) (by omega)) rfl rfl ⟨Nat.le_of_ble_eq_true rfl, Nat.le_of_ble_eq_true rfl⟩ (Nat.le_of_ble_eq_true rfl) ⟨Nat.le_of_ble_eq_true rfl, Nat.le_of_ble_eq_true rfl⟩ ?_
          refine R_ifp_eq 124 177 rfl rfl dX11_worth_121 (fun h121 => ?_) (fun h121 => ?_)
          · refine R_iconst 178 rfl dX11_worth_177 ?_
            refine R_istore [_, _, _, _, _, _, _, _, _, _, _, _, _, _] 180 rfl dX11_worth_178 rfl (by decide) ?_
            refine R_lload 182 rfl dX11_worth_180 rfl ?_
            refine R_iload 184 rfl dX11_worth_182 rfl ?_
            refine R_if_eq 187 191 rfl rfl dX11_worth_184 (by first | assumption | exact ⟨by omega, by omega⟩) (fun h184 => ?_) (fun h184 => ?_)
            rotate_left
            · exact absurd h184 (by omega)
            refine R_lconst 192 rfl dX11_worth_191 ?_
            refine R_topL (b := 0) rfl ?_
            refine R_ladd 193 rfl dX11_worth_192 ?_
            refine R_lstore [_, _, _, _, _, _, _, _, _, _, _, _, _, _] 195 rfl dX11_worth_193 rfl (by decide) ?_
            refine R_lload 197 rfl dX11_worth_195 rfl ?_
            refine R_iload 199 rfl dX11_worth_197 rfl ?_
            refine R_if_eq 202 215 rfl rfl dX11_worth_199 (by first | assumption | exact ⟨by omega, by omega⟩) (fun h199 => ?_) (fun h199 => ?_)
            rotate_left
            · exact absurd h199 (by omega)
            refine R_lconst 216 rfl dX11_worth_215 ?_
            refine R_topL (b := 0) rfl ?_
            refine R_ladd 217 rfl dX11_worth_216 ?_
            refine R_lstore [_, _, _, _, _, _, _, _, _, _, _, _, _, _] 219 rfl dX11_worth_217 rfl (by decide) ?_
            refine R_iinc [_, _, _, _, _, _, _, _, _, _, _, _, _, _] 222 rfl dX11_worth_219 rfl rfl (by decide) ?_
            refine R_goto 65 rfl dX11_worth_222 ?_
            first
              | (have y1 : qtP L B ch kn.toNat yr 1 k = true := e1.mpr ⟨h121, by omega⟩
                 rw [pI_t y1] at c1
                 first
                   | (rw [pI_t (e2.mpr ⟨y1, h208⟩)] at c2
                      exact ih (by omega) _ _ _ _ _ _ (by omega) (by omega) (by omega))
                   | (rw [pI_f (fun q => h208 (e2.mp q).2)] at c2
                      exact ih (by omega) _ _ _ _ _ _ (by omega) (by omega) (by omega)))
              | (have y1 : ¬ qtP L B ch kn.toNat yr 1 k = true := fun q => by have q2 := e1.mp q; first | exact h121 q2.1 | (have q3 := q2.2; omega)
                 rw [pI_f y1] at c1
                 rw [pI_f (fun q => y1 (e2.mp q).1)] at c2
                 exact ih (by omega) _ _ _ _ _ _ (by omega) (by omega) (by omega))
          · refine R_iload 126 rfl dX11_worth_124 rfl ?_
            refine R_iload 128 rfl dX11_worth_126 rfl ?_
            refine R_iconst 129 rfl dX11_worth_128 ?_
            refine R_icmp_ge 132 136 rfl rfl dX11_worth_129 (by first | assumption | exact ⟨by omega, by omega⟩) (by first | assumption | exact ⟨by omega, by omega⟩) (fun h129 => ?_) (fun h129 => ?_)
            rotate_left
            · exact absurd h129 (by omega)
            refine R_iconst 137 rfl dX11_worth_136 ?_
            refine R_icmp_ne 140 177 rfl rfl dX11_worth_137 (by first | assumption | exact ⟨by omega, by omega⟩) (by first | assumption | exact ⟨by omega, by omega⟩) (fun h137 => ?_) (fun h137 => ?_)
            rotate_left
            · exact absurd h137 (by omega)
            refine R_iconst 178 rfl dX11_worth_177 ?_
            refine R_istore [_, _, _, _, _, _, _, _, _, _, _, _, _, _] 180 rfl dX11_worth_178 rfl (by decide) ?_
            refine R_lload 182 rfl dX11_worth_180 rfl ?_
            refine R_iload 184 rfl dX11_worth_182 rfl ?_
            refine R_if_eq 187 191 rfl rfl dX11_worth_184 (by first | assumption | exact ⟨by omega, by omega⟩) (fun h184 => ?_) (fun h184 => ?_)
            rotate_left
            · exact absurd h184 (by omega)
            refine R_lconst 192 rfl dX11_worth_191 ?_
            refine R_topL (b := 0) rfl ?_
            refine R_ladd 193 rfl dX11_worth_192 ?_
            refine R_lstore [_, _, _, _, _, _, _, _, _, _, _, _, _, _] 195 rfl dX11_worth_193 rfl (by decide) ?_
            refine R_lload 197 rfl dX11_worth_195 rfl ?_
            refine R_iload 199 rfl dX11_worth_197 rfl ?_
            refine R_if_eq 202 215 rfl rfl dX11_worth_199 (by first | assumption | exact ⟨by omega, by omega⟩) (fun h199 => ?_) (fun h199 => ?_)
            rotate_left
            · exact absurd h199 (by omega)
            refine R_lconst 216 rfl dX11_worth_215 ?_
            refine R_topL (b := 0) rfl ?_
            refine R_ladd 217 rfl dX11_worth_216 ?_
            refine R_lstore [_, _, _, _, _, _, _, _, _, _, _, _, _, _] 219 rfl dX11_worth_217 rfl (by decide) ?_
            refine R_iinc [_, _, _, _, _, _, _, _, _, _, _, _, _, _] 222 rfl dX11_worth_219 rfl rfl (by decide) ?_
            refine R_goto 65 rfl dX11_worth_222 ?_
            first
              | (have y1 : qtP L B ch kn.toNat yr 1 k = true := e1.mpr ⟨h121, by omega⟩
                 rw [pI_t y1] at c1
                 first
                   | (rw [pI_t (e2.mpr ⟨y1, h208⟩)] at c2
                      exact ih (by omega) _ _ _ _ _ _ (by omega) (by omega) (by omega))
                   | (rw [pI_f (fun q => h208 (e2.mp q).2)] at c2
                      exact ih (by omega) _ _ _ _ _ _ (by omega) (by omega) (by omega)))
              | (have y1 : ¬ qtP L B ch kn.toNat yr 1 k = true := fun q => by have q2 := e1.mp q; first | exact h121 q2.1 | (have q3 := q2.2; omega)
                 rw [pI_f y1] at c1
                 rw [pI_f (fun q => y1 (e2.mp q).1)] at c2
                 exact ih (by omega) _ _ _ _ _ _ (by omega) (by omega) (by omega))
  refine R_iload 52 rfl dX11_worth_50 rfl ?_
  refine R_iconst 53 rfl dX11_worth_52 ?_
  refine R_icmp_ge 56 282 rfl rfl dX11_worth_53 (by first | assumption | exact ⟨by omega, by omega⟩) (by first | assumption | exact ⟨by omega, by omega⟩) (fun h53 => ?_) (fun h53 => ?_)
  · exact absurd h53 (by omega)
  refine R_lconst 57 rfl dX11_worth_56 ?_
  refine R_topL (b := 0) rfl ?_
  refine R_lstore [_, _, _, _, _, _, _, _, _, _, _, _, _, _] 59 rfl dX11_worth_57 rfl (by decide) ?_
  refine R_lconst 60 rfl dX11_worth_59 ?_
  refine R_topL (b := 0) rfl ?_
  refine R_lstore [_, _, _, _, _, _, _, _, _, _, _, _, _, _] 62 rfl dX11_worth_60 rfl (by decide) ?_
  refine R_iconst 63 rfl dX11_worth_62 ?_
  refine R_istore [_, _, _, _, _, _, _, _, _, _, _, _, _, _] 65 rfl dX11_worth_63 rfl (by decide) ?_
  exact Li 0 (by omega) _ _ _ _ _ _ rfl rfl rfl
set_option maxHeartbeats 2000000 in
theorem w_1 (kn yr w nb : Int) (m1 : Mem) {x6 x8 x10 x11 x12 x13 : Option AV} {x7 x9 : Option AV} (hR : RS L B ch m) (ho : (0 ≤ kn ∧ kn ≤ 1) ∧ (0 ≤ yr ∧ yr ≤ 89) ∧ (0 ≤ w ∧ w ≤ 1)) (hI : wI L B ch m m1 (qtM L B ch kn.toNat yr) (qtB L B ch kn.toNat yr) 1 nb) : R Γ mX11_worth { frames := 7, cells := 0, slots := 0, locals := 280 } 0 0 (QM L B ch m (a_worth L B ch kn yr w)) 0 0 50 [some (vr 96), some (vi kn), some (vi yr), some (vi w), some (vi nb), some (vi 1), x6, x7, x8, x9, x10, x11, x12, x13] [] SH m1 := by
  obtain ⟨hf, hZ, hr, n01, n0, n1⟩ := id hI
  have hO := hR.2.2.2.2.1
  have hb := hO.1
  have hl := hR.2.2.1.1
  have qr := qt_rg L B ch kn.toNat yr hb
  have qa := qt_ab L B ch kn.toNat yr 2
  obtain ⟨d1, d2⟩ := we_bd qr
  have d20 := d2 0
  have d21 := d2 1
  have d22 := d2 2
  have d23 := d2 3
  have hW := hZ.w
  have Li : ∀ k, k ≤ 2 * B.1 → ∀ n c z y11 y12 y13, n = (cnt (qtP L B ch kn.toNat yr 2) k : Int) → c = (cnt (qtQ L B ch kn.toNat yr 2) k : Int) → z = (k : Int) → R Γ mX11_worth { frames := 7, cells := 0, slots := 0, locals := 280 } 0 0 (QM L B ch m (a_worth L B ch kn yr w)) 0 0 65 [some (vr 96), some (vi kn), some (vi yr), some (vi w), some (vi nb), some (vi 1), some (vl n), none, some (vl c), none, some (vi z), y11, y12, y13] [] SH m1 := by
    refine up_ind (2 * B.1) (fun k hk ih n c z y11 y12 y13 hn hc hz => ?_)
    have cl := cnt_le (qtP L B ch kn.toNat yr 2) k
    have cl2 := cnt_le (qtQ L B ch kn.toNat yr 2) k
    refine R_iload 67 rfl dX11_worth_65 rfl ?_
    refine R_iconst 68 rfl dX11_worth_67 ?_
    refine R_aload_n 69 rfl dX11_worth_68 rfl ?_
    refine R_callV_i (M' := mX11_size) 72 rfl dX11_worth_69 ml_X11_150 kmX11_size im_X11_size se_X11_size rfl ⟨by decide, rfl⟩ (c_X11_size hZ.1) rfl rfl ⟨Nat.le_of_ble_eq_true rfl, Nat.le_of_ble_eq_true rfl⟩ (Nat.le_of_ble_eq_true rfl) ⟨Nat.le_of_ble_eq_true rfl, Nat.le_of_ble_eq_true rfl⟩ ?_
    refine R_imul 73 rfl dX11_worth_72 ?_
    refine R_icmp_ge 76 225 rfl rfl dX11_worth_73 (by first | assumption | exact ⟨by omega, by omega⟩) (by first | assumption | exact ⟨by omega, by omega⟩) (fun h73 => ?_) (fun h73 => ?_)
    · have ek : k = 2 * B.1 := by omega
      subst ek
      have en : n = qtM L B ch kn.toNat yr 2 := hn
      have ec : c = qtB L B ch kn.toNat yr 2 := hc
      have ws : weN (qtM L B ch kn.toNat yr) (qtB L B ch kn.toNat yr) 2 = weN (qtM L B ch kn.toNat yr) (qtB L B ch kn.toNat yr) 1 + -c * weQ (qtM L B ch kn.toNat yr) 2 := by rw [ec]; rfl
      have wr := weN_rg qr 2
      have qg := qr 2
      refine R_iload 227 rfl dX11_worth_225 rfl ?_
      refine R_if_ne 230 237 rfl rfl dX11_worth_227 (by first | assumption | exact ⟨by omega, by omega⟩) (fun h227 => ?_) (fun h227 => ?_)
      · refine R_iconst 238 rfl dX11_worth_237 ?_
        refine R_goto 242 rfl dX11_worth_238 ?_
        refine R_istore [_, _, _, _, _, _, _, _, _, _, _, _, _, _] 244 rfl dX11_worth_242 rfl (by decide) ?_
        refine R_lload 246 rfl dX11_worth_244 rfl ?_
        refine R_lconst 247 rfl dX11_worth_246 ?_
        refine R_topL (b := 0) rfl ?_
        refine R_lif_le 248 251 276 rfl rfl rfl dX11_worth_247 dX11_worth_248 (by first | assumption | exact ⟨by omega, by omega⟩ | exact rg_L (by assumption)) (by first | assumption | exact ⟨by omega, by omega⟩ | exact rg_L (by assumption)) (fun h248 => ?_) (fun h248 => ?_)
        · refine R_iinc [_, _, _, _, _, _, _, _, _, _, _, _, _, _] 279 rfl dX11_worth_276 rfl rfl (by decide) ?_
          refine R_goto 50 rfl dX11_worth_279 ?_
          first
            | (exfalso; omega)
            | (refine w_2 kn yr w _ _ hR ho ⟨hf.tr f273.m, f273.z hZ, ?_, by omega, ?_, ?_⟩
               · rw [ws]; exact r273
               · intro q; have := n0; omega
               · intro q; have := n1; omega)
            | (refine w_2 kn yr w _ _ hR ho ⟨hf, hZ, ?_, by omega, ?_, ?_⟩
               · have c0 : c = 0 := by omega
                 rw [ws, c0]
                 simpa using hr
               · intro q; have := n0; omega
               · intro q; have := n1; omega)
        · refine R_aload_n 252 rfl dX11_worth_251 rfl ?_
          refine R_iload 254 rfl dX11_worth_252 rfl ?_
          refine R_if_eq 257 263 rfl rfl dX11_worth_254 (by first | assumption | exact ⟨by omega, by omega⟩) (fun h254 => ?_) (fun h254 => ?_)
          · exact absurd h254 (by omega)
          refine R_iload 259 rfl dX11_worth_257 rfl ?_
          refine R_iconst 260 rfl dX11_worth_259 ?_
          refine R_icmp_ne 263 268 rfl rfl dX11_worth_260 (by first | assumption | exact ⟨by omega, by omega⟩) (by first | assumption | exact ⟨by omega, by omega⟩) (fun h260 => ?_) (fun h260 => ?_)
          rotate_left
          · exact absurd h260 (by omega)
          refine R_lload 270 rfl dX11_worth_268 rfl ?_
          refine R_lneg 271 rfl dX11_worth_270 ?_
          refine R_lload 273 rfl dX11_worth_271 rfl ?_
          refine R_callV_V (M' := mX11_plus) 276 rfl dX11_worth_273 ml_X11_310 kmX11_plus im_X11_plus se_X11_plus rfl ⟨by decide, rfl⟩ (c_X11_plus (weN (qtM L B ch kn.toNat yr) (qtB L B ch kn.toNat yr) 1) (weD (qtM L B ch kn.toNat yr)) _ _ (weQ (qtM L B ch kn.toNat yr) 2) hr ⟨d1.1, by omega⟩ (by omega) (by rw [en, weD_q _ 2 (by omega), we, if_neg (by omega)]) ⟨by omega, by omega⟩ (by rw [← ws]; exact ⟨by omega, by omega⟩)) rfl rfl ⟨Nat.le_of_ble_eq_true rfl, Nat.le_of_ble_eq_true rfl⟩ (Nat.le_of_ble_eq_true rfl) ⟨Nat.le_of_ble_eq_true rfl, Nat.le_of_ble_eq_true rfl⟩ ?_
          rintro m273 h273
          obtain ⟨f273, r273⟩ := h273
          refine R_iinc [_, _, _, _, _, _, _, _, _, _, _, _, _, _] 279 rfl dX11_worth_276 rfl rfl (by decide) ?_
          refine R_goto 50 rfl dX11_worth_279 ?_
          first
            | (exfalso; omega)
            | (refine w_2 kn yr w _ _ hR ho ⟨hf.tr f273.m, f273.z hZ, ?_, by omega, ?_, ?_⟩
               · rw [ws]; exact r273
               · intro q; have := n0; omega
               · intro q; have := n1; omega)
            | (refine w_2 kn yr w _ _ hR ho ⟨hf, hZ, ?_, by omega, ?_, ?_⟩
               · have c0 : c = 0 := by omega
                 rw [ws, c0]
                 simpa using hr
               · intro q; have := n0; omega
               · intro q; have := n1; omega)
      · refine R_lload 232 rfl dX11_worth_230 rfl ?_
        refine R_lconst 233 rfl dX11_worth_232 ?_
        refine R_topL (b := 0) rfl ?_
        refine R_lif_ne 234 237 241 rfl rfl rfl dX11_worth_233 dX11_worth_234 (by first | assumption | exact ⟨by omega, by omega⟩ | exact rg_L (by assumption)) (by first | assumption | exact ⟨by omega, by omega⟩ | exact rg_L (by assumption)) (fun h234 => ?_) (fun h234 => ?_)
        · refine R_iconst 242 rfl dX11_worth_241 ?_
          refine R_istore [_, _, _, _, _, _, _, _, _, _, _, _, _, _] 244 rfl dX11_worth_242 rfl (by decide) ?_
          refine R_lload 246 rfl dX11_worth_244 rfl ?_
          refine R_lconst 247 rfl dX11_worth_246 ?_
          refine R_topL (b := 0) rfl ?_
          refine R_lif_le 248 251 276 rfl rfl rfl dX11_worth_247 dX11_worth_248 (by first | assumption | exact ⟨by omega, by omega⟩ | exact rg_L (by assumption)) (by first | assumption | exact ⟨by omega, by omega⟩ | exact rg_L (by assumption)) (fun h248 => ?_) (fun h248 => ?_)
          · refine R_iinc [_, _, _, _, _, _, _, _, _, _, _, _, _, _] 279 rfl dX11_worth_276 rfl rfl (by decide) ?_
            refine R_goto 50 rfl dX11_worth_279 ?_
            first
              | (exfalso; omega)
              | (refine w_2 kn yr w _ _ hR ho ⟨hf.tr f273.m, f273.z hZ, ?_, by omega, ?_, ?_⟩
                 · rw [ws]; exact r273
                 · intro q; have := n0; omega
                 · intro q; have := n1; omega)
              | (refine w_2 kn yr w _ _ hR ho ⟨hf, hZ, ?_, by omega, ?_, ?_⟩
                 · have c0 : c = 0 := by omega
                   rw [ws, c0]
                   simpa using hr
                 · intro q; have := n0; omega
                 · intro q; have := n1; omega)
          · refine R_aload_n 252 rfl dX11_worth_251 rfl ?_
            refine R_iload 254 rfl dX11_worth_252 rfl ?_
            refine R_if_eq 257 263 rfl rfl dX11_worth_254 (by first | assumption | exact ⟨by omega, by omega⟩) (fun h254 => ?_) (fun h254 => ?_)
            · exact absurd h254 (by omega)
            refine R_iload 259 rfl dX11_worth_257 rfl ?_
            refine R_iconst 260 rfl dX11_worth_259 ?_
            refine R_icmp_ne 263 268 rfl rfl dX11_worth_260 (by first | assumption | exact ⟨by omega, by omega⟩) (by first | assumption | exact ⟨by omega, by omega⟩) (fun h260 => ?_) (fun h260 => ?_)
            rotate_left
            · exact absurd h260 (by omega)
            refine R_lload 270 rfl dX11_worth_268 rfl ?_
            refine R_lneg 271 rfl dX11_worth_270 ?_
            refine R_lload 273 rfl dX11_worth_271 rfl ?_
            refine R_callV_V (M' := mX11_plus) 276 rfl dX11_worth_273 ml_X11_310 kmX11_plus im_X11_plus se_X11_plus rfl ⟨by decide, rfl⟩ (c_X11_plus (weN (qtM L B ch kn.toNat yr) (qtB L B ch kn.toNat yr) 1) (weD (qtM L B ch kn.toNat yr)) _ _ (weQ (qtM L B ch kn.toNat yr) 2) hr ⟨d1.1, by omega⟩ (by omega) (by rw [en, weD_q _ 2 (by omega), we, if_neg (by omega)]) ⟨by omega, by omega⟩ (by rw [← ws]; exact ⟨by omega, by omega⟩)) rfl rfl ⟨Nat.le_of_ble_eq_true rfl, Nat.le_of_ble_eq_true rfl⟩ (Nat.le_of_ble_eq_true rfl) ⟨Nat.le_of_ble_eq_true rfl, Nat.le_of_ble_eq_true rfl⟩ ?_
            rintro m273 h273
            obtain ⟨f273, r273⟩ := h273
            refine R_iinc [_, _, _, _, _, _, _, _, _, _, _, _, _, _] 279 rfl dX11_worth_276 rfl rfl (by decide) ?_
            refine R_goto 50 rfl dX11_worth_279 ?_
            first
              | (exfalso; omega)
              | (refine w_2 kn yr w _ _ hR ho ⟨hf.tr f273.m, f273.z hZ, ?_, by omega, ?_, ?_⟩
                 · rw [ws]; exact r273
                 · intro q; have := n0; omega
                 · intro q; have := n1; omega)
              | (refine w_2 kn yr w _ _ hR ho ⟨hf, hZ, ?_, by omega, ?_, ?_⟩
                 · have c0 : c = 0 := by omega
                   rw [ws, c0]
                   simpa using hr
                 · intro q; have := n0; omega
                 · intro q; have := n1; omega)
        · refine R_iconst 238 rfl dX11_worth_237 ?_
          refine R_goto 242 rfl dX11_worth_238 ?_
          refine R_istore [_, _, _, _, _, _, _, _, _, _, _, _, _, _] 244 rfl dX11_worth_242 rfl (by decide) ?_
          refine R_lload 246 rfl dX11_worth_244 rfl ?_
          refine R_lconst 247 rfl dX11_worth_246 ?_
          refine R_topL (b := 0) rfl ?_
          refine R_lif_le 248 251 276 rfl rfl rfl dX11_worth_247 dX11_worth_248 (by first | assumption | exact ⟨by omega, by omega⟩ | exact rg_L (by assumption)) (by first | assumption | exact ⟨by omega, by omega⟩ | exact rg_L (by assumption)) (fun h248 => ?_) (fun h248 => ?_)
          · refine R_iinc [_, _, _, _, _, _, _, _, _, _, _, _, _, _] 279 rfl dX11_worth_276 rfl rfl (by decide) ?_
            refine R_goto 50 rfl dX11_worth_279 ?_
            first
              | (exfalso; omega)
              | (refine w_2 kn yr w _ _ hR ho ⟨hf.tr f273.m, f273.z hZ, ?_, by omega, ?_, ?_⟩
                 · rw [ws]; exact r273
                 · intro q; have := n0; omega
                 · intro q; have := n1; omega)
              | (refine w_2 kn yr w _ _ hR ho ⟨hf, hZ, ?_, by omega, ?_, ?_⟩
                 · have c0 : c = 0 := by omega
                   rw [ws, c0]
                   simpa using hr
                 · intro q; have := n0; omega
                 · intro q; have := n1; omega)
          · refine R_aload_n 252 rfl dX11_worth_251 rfl ?_
            refine R_iload 254 rfl dX11_worth_252 rfl ?_
            refine R_if_eq 257 263 rfl rfl dX11_worth_254 (by first | assumption | exact ⟨by omega, by omega⟩) (fun h254 => ?_) (fun h254 => ?_)
            · exact absurd h254 (by omega)
            refine R_iload 259 rfl dX11_worth_257 rfl ?_
            refine R_iconst 260 rfl dX11_worth_259 ?_
            refine R_icmp_ne 263 268 rfl rfl dX11_worth_260 (by first | assumption | exact ⟨by omega, by omega⟩) (by first | assumption | exact ⟨by omega, by omega⟩) (fun h260 => ?_) (fun h260 => ?_)
            rotate_left
            · exact absurd h260 (by omega)
            refine R_lload 270 rfl dX11_worth_268 rfl ?_
            refine R_lneg 271 rfl dX11_worth_270 ?_
            refine R_lload 273 rfl dX11_worth_271 rfl ?_
            refine R_callV_V (M' := mX11_plus) 276 rfl dX11_worth_273 ml_X11_310 kmX11_plus im_X11_plus se_X11_plus rfl ⟨by decide, rfl⟩ (c_X11_plus (weN (qtM L B ch kn.toNat yr) (qtB L B ch kn.toNat yr) 1) (weD (qtM L B ch kn.toNat yr)) _ _ (weQ (qtM L B ch kn.toNat yr) 2) hr ⟨d1.1, by omega⟩ (by omega) (by rw [en, weD_q _ 2 (by omega), we, if_neg (by omega)]) ⟨by omega, by omega⟩ (by rw [← ws]; exact ⟨by omega, by omega⟩)) rfl rfl ⟨Nat.le_of_ble_eq_true rfl, Nat.le_of_ble_eq_true rfl⟩ (Nat.le_of_ble_eq_true rfl) ⟨Nat.le_of_ble_eq_true rfl, Nat.le_of_ble_eq_true rfl⟩ ?_
            rintro m273 h273
            obtain ⟨f273, r273⟩ := h273
            refine R_iinc [_, _, _, _, _, _, _, _, _, _, _, _, _, _] 279 rfl dX11_worth_276 rfl rfl (by decide) ?_
            refine R_goto 50 rfl dX11_worth_279 ?_
            first
              | (exfalso; omega)
              | (refine w_2 kn yr w _ _ hR ho ⟨hf.tr f273.m, f273.z hZ, ?_, by omega, ?_, ?_⟩
                 · rw [ws]; exact r273
                 · intro q; have := n0; omega
                 · intro q; have := n1; omega)
              | (refine w_2 kn yr w _ _ hR ho ⟨hf, hZ, ?_, by omega, ?_, ?_⟩
                 · have c0 : c = 0 := by omega
                   rw [ws, c0]
                   simpa using hr
                 · intro q; have := n0; omega
                 · intro q; have := n1; omega)
    · have g4 := hO.2.1 (k / 2) (by omega)
      have p4 := hR.2.2.1.2.2.1 (B.2.1 0 (k / 2)).toNat (by omega)
      have e1 := qtP_iff2 (L := L) (B := B) (ch := ch) (kn := kn.toNat) (g := 2) (k := k) (yr := yr)
      have e2 := qtQ_iff2 (L := L) (B := B) (ch := ch) (kn := kn.toNat) (g := 2) (k := k) (yr := yr)
      have c1 := cnt_pI (qtP L B ch kn.toNat yr 2) k
      have c2 := cnt_pI (qtQ L B ch kn.toNat yr 2) k
      have sr : L.2.1 (2 + kn.toNat) (B.2.1 0 (k / 2)).toNat = -4 ∨ (0 ≤ L.2.1 (2 + kn.toNat) (B.2.1 0 (k / 2)).toNat ∧ L.2.1 (2 + kn.toNat) (B.2.1 0 (k / 2)).toNat ≤ 89) := by
        rcases (show kn.toNat = 0 ∨ kn.toNat = 1 by omega) with q | q
        · rw [q]; exact p4.2.2.2.1
        · rw [q]; exact p4.2.2.2.2
      have qg : (0 ≤ L.2.1 (2 + kn.toNat) (B.2.1 0 (k / 2)).toNat ∧ L.2.1 (2 + kn.toNat) (B.2.1 0 (k / 2)).toNat ≤ yr ∧ yr ≤ B.2.1 1 (k / 2) → qtG L B kn.toNat yr k = 3) ∧ (0 ≤ L.2.1 (2 + kn.toNat) (B.2.1 0 (k / 2)).toNat ∧ L.2.1 (2 + kn.toNat) (B.2.1 0 (k / 2)).toNat ≤ yr ∧ ¬ yr ≤ B.2.1 1 (k / 2) → qtG L B kn.toNat yr k = 2) ∧ (¬ (0 ≤ L.2.1 (2 + kn.toNat) (B.2.1 0 (k / 2)).toNat ∧ L.2.1 (2 + kn.toNat) (B.2.1 0 (k / 2)).toNat ≤ yr) ∧ yr ≤ B.2.1 1 (k / 2) → qtG L B kn.toNat yr k = 1) ∧ (¬ (0 ≤ L.2.1 (2 + kn.toNat) (B.2.1 0 (k / 2)).toNat ∧ L.2.1 (2 + kn.toNat) (B.2.1 0 (k / 2)).toNat ≤ yr) ∧ ¬ yr ≤ B.2.1 1 (k / 2) → qtG L B kn.toNat yr k = 0) := by
        unfold qtG
        refine ⟨fun q => ?_, fun q => ?_, fun q => ?_, fun q => ?_⟩
        · rw [if_pos ⟨q.1, q.2.1⟩, if_pos q.2.2]; rfl
        · rw [if_pos ⟨q.1, q.2.1⟩, if_neg q.2.2]; rfl
        · rw [if_neg q.1, if_pos q.2]; rfl
        · rw [if_neg q.1, if_neg q.2]; rfl
      refine R_aload_n 77 rfl dX11_worth_76 rfl ?_
      refine R_aload_n 78 rfl dX11_worth_77 rfl ?_
      refine R_iload 80 rfl dX11_worth_78 rfl ?_
      refine R_iconst 81 rfl dX11_worth_80 ?_
      refine R_idiv_p 82 rfl dX11_worth_81 (by first | assumption | exact ⟨by omega, by omega⟩) (by first | assumption | exact ⟨by omega, by omega⟩) (by omega) (by omega) ?_
      refine R_iconst 83 rfl dX11_worth_82 ?_
      refine R_callV_i (M' := mX11_its) 86 rfl dX11_worth_83 ml_X11_153 kmX11_its im_X11_its se_X11_its rfl ⟨by decide, rfl⟩ (c_X11_its _ _ (k / 2) 0 hZ.1 (by omega) (by omega) (by omega) (by omega)) rfl rfl ⟨Nat.le_of_ble_eq_true rfl, Nat.le_of_ble_eq_true rfl⟩ (Nat.le_of_ble_eq_true rfl) ⟨Nat.le_of_ble_eq_true rfl, Nat.le_of_ble_eq_true rfl⟩ ?_
      refine R_iconst 87 rfl dX11_worth_86 ?_
      refine R_iload_n 88 rfl dX11_worth_87 rfl ?_
      refine R_iadd 89 rfl dX11_worth_88 ?_
      refine R_callV_i (M' := mX11_parishOf) 92 rfl dX11_worth_89 ml_X11_156 kmX11_parishOf im_X11_parishOf se_X11_parishOf rfl ⟨by decide, rfl⟩ (c_X11_parishOf _ _ (B.2.1 0 (k / 2)).toNat (2 + kn.toNat) hZ.1 (by omega) (by omega) (by omega) (by omega)) rfl rfl ⟨Nat.le_of_ble_eq_true rfl, Nat.le_of_ble_eq_true rfl⟩ (Nat.le_of_ble_eq_true rfl) ⟨Nat.le_of_ble_eq_true rfl, Nat.le_of_ble_eq_true rfl⟩ ?_
      refine R_istore [_, _, _, _, _, _, _, _, _, _, _, _, _, _] 94 rfl dX11_worth_92 rfl (by decide) ?_
      refine R_iload 96 rfl dX11_worth_94 rfl ?_
      refine R_bipush 98 rfl dX11_worth_96 (by decide) ?_
      refine R_icmp_eq 101 111 rfl rfl dX11_worth_98 (by first | assumption | exact ⟨by omega, by omega⟩) (by first | assumption | exact ⟨by omega, by omega⟩) (fun h98 => ?_) (fun h98 => ?_)
      · refine R_iconst 112 rfl dX11_worth_111 ?_
        refine R_istore [_, _, _, _, _, _, _, _, _, _, _, _, _, _] 114 rfl dX11_worth_112 rfl (by decide) ?_
        refine R_aload_n 115 rfl dX11_worth_114 rfl ?_
        refine R_iconst 116 rfl dX11_worth_115 ?_
        refine R_iload 118 rfl dX11_worth_116 rfl ?_
        refine R_callV_i (M' := mX11_isIn) 121 rfl dX11_worth_118 ml_X11_240 kmX11_isIn im_X11_isIn se_X11_isIn rfl ⟨by decide, rfl⟩ (c_X11_isIn _ _ 0 k hW rfl (by decide) (by omega) (by omega)) rfl rfl ⟨Nat.le_of_ble_eq_true rfl, Nat.le_of_ble_eq_true rfl⟩ (Nat.le_of_ble_eq_true rfl) ⟨Nat.le_of_ble_eq_true rfl, Nat.le_of_ble_eq_true rfl⟩ ?_
        refine R_ifp_eq 124 177 rfl rfl dX11_worth_121 (fun h121 => ?_) (fun h121 => ?_)
        · refine R_iconst 178 rfl dX11_worth_177 ?_
          refine R_istore [_, _, _, _, _, _, _, _, _, _, _, _, _, _] 180 rfl dX11_worth_178 rfl (by decide) ?_
          refine R_lload 182 rfl dX11_worth_180 rfl ?_
          refine R_iload 184 rfl dX11_worth_182 rfl ?_
          refine R_if_eq 187 191 rfl rfl dX11_worth_184 (by first | assumption | exact ⟨by omega, by omega⟩) (fun h184 => ?_) (fun h184 => ?_)
          rotate_left
          · exact absurd h184 (by omega)
          refine R_lconst 192 rfl dX11_worth_191 ?_
          refine R_topL (b := 0) rfl ?_
          refine R_ladd 193 rfl dX11_worth_192 ?_
          refine R_lstore [_, _, _, _, _, _, _, _, _, _, _, _, _, _] 195 rfl dX11_worth_193 rfl (by decide) ?_
          refine R_lload 197 rfl dX11_worth_195 rfl ?_
          refine R_iload 199 rfl dX11_worth_197 rfl ?_
          refine R_if_eq 202 215 rfl rfl dX11_worth_199 (by first | assumption | exact ⟨by omega, by omega⟩) (fun h199 => ?_) (fun h199 => ?_)
          rotate_left
          · exact absurd h199 (by omega)
          refine R_lconst 216 rfl dX11_worth_215 ?_
          refine R_topL (b := 0) rfl ?_
          refine R_ladd 217 rfl dX11_worth_216 ?_
          refine R_lstore [_, _, _, _, _, _, _, _, _, _, _, _, _, _] 219 rfl dX11_worth_217 rfl (by decide) ?_
          refine R_iinc [_, _, _, _, _, _, _, _, _, _, _, _, _, _] 222 rfl dX11_worth_219 rfl rfl (by decide) ?_
          refine R_goto 65 rfl dX11_worth_222 ?_
          first
            | (have y1 : qtP L B ch kn.toNat yr 2 k = true := e1.mpr ⟨h121, by omega⟩
               rw [pI_t y1] at c1
               first
                 | (rw [pI_t (e2.mpr ⟨y1, h208⟩)] at c2
                    exact ih (by omega) _ _ _ _ _ _ (by omega) (by omega) (by omega))
                 | (rw [pI_f (fun q => h208 (e2.mp q).2)] at c2
                    exact ih (by omega) _ _ _ _ _ _ (by omega) (by omega) (by omega)))
            | (have y1 : ¬ qtP L B ch kn.toNat yr 2 k = true := fun q => by have q2 := e1.mp q; first | exact h121 q2.1 | (have q3 := q2.2; omega)
               rw [pI_f y1] at c1
               rw [pI_f (fun q => y1 (e2.mp q).1)] at c2
               exact ih (by omega) _ _ _ _ _ _ (by omega) (by omega) (by omega))
        · refine R_iload 126 rfl dX11_worth_124 rfl ?_
          refine R_iload 128 rfl dX11_worth_126 rfl ?_
          refine R_iconst 129 rfl dX11_worth_128 ?_
          refine R_icmp_ge 132 136 rfl rfl dX11_worth_129 (by first | assumption | exact ⟨by omega, by omega⟩) (by first | assumption | exact ⟨by omega, by omega⟩) (fun h129 => ?_) (fun h129 => ?_)
          · exact absurd h129 (by omega)
          refine R_iconst 133 rfl dX11_worth_132 ?_
          refine R_goto 137 rfl dX11_worth_133 ?_
          refine R_icmp_ne 140 177 rfl rfl dX11_worth_137 (by first | assumption | exact ⟨by omega, by omega⟩) (by first | assumption | exact ⟨by omega, by omega⟩) (fun h137 => ?_) (fun h137 => ?_)
          rotate_left
          · exact absurd h137 (by omega)
          refine R_iconst 178 rfl dX11_worth_177 ?_
          refine R_istore [_, _, _, _, _, _, _, _, _, _, _, _, _, _] 180 rfl dX11_worth_178 rfl (by decide) ?_
          refine R_lload 182 rfl dX11_worth_180 rfl ?_
          refine R_iload 184 rfl dX11_worth_182 rfl ?_
          refine R_if_eq 187 191 rfl rfl dX11_worth_184 (by first | assumption | exact ⟨by omega, by omega⟩) (fun h184 => ?_) (fun h184 => ?_)
          rotate_left
          · exact absurd h184 (by omega)
          refine R_lconst 192 rfl dX11_worth_191 ?_
          refine R_topL (b := 0) rfl ?_
          refine R_ladd 193 rfl dX11_worth_192 ?_
          refine R_lstore [_, _, _, _, _, _, _, _, _, _, _, _, _, _] 195 rfl dX11_worth_193 rfl (by decide) ?_
          refine R_lload 197 rfl dX11_worth_195 rfl ?_
          refine R_iload 199 rfl dX11_worth_197 rfl ?_
          refine R_if_eq 202 215 rfl rfl dX11_worth_199 (by first | assumption | exact ⟨by omega, by omega⟩) (fun h199 => ?_) (fun h199 => ?_)
          rotate_left
          · exact absurd h199 (by omega)
          refine R_lconst 216 rfl dX11_worth_215 ?_
          refine R_topL (b := 0) rfl ?_
          refine R_ladd 217 rfl dX11_worth_216 ?_
          refine R_lstore [_, _, _, _, _, _, _, _, _, _, _, _, _, _] 219 rfl dX11_worth_217 rfl (by decide) ?_
          refine R_iinc [_, _, _, _, _, _, _, _, _, _, _, _, _, _] 222 rfl dX11_worth_219 rfl rfl (by decide) ?_
          refine R_goto 65 rfl dX11_worth_222 ?_
          first
            | (have y1 : qtP L B ch kn.toNat yr 2 k = true := e1.mpr ⟨h121, by omega⟩
               rw [pI_t y1] at c1
               first
                 | (rw [pI_t (e2.mpr ⟨y1, h208⟩)] at c2
                    exact ih (by omega) _ _ _ _ _ _ (by omega) (by omega) (by omega))
                 | (rw [pI_f (fun q => h208 (e2.mp q).2)] at c2
                    exact ih (by omega) _ _ _ _ _ _ (by omega) (by omega) (by omega)))
            | (have y1 : ¬ qtP L B ch kn.toNat yr 2 k = true := fun q => by have q2 := e1.mp q; first | exact h121 q2.1 | (have q3 := q2.2; omega)
               rw [pI_f y1] at c1
               rw [pI_f (fun q => y1 (e2.mp q).1)] at c2
               exact ih (by omega) _ _ _ _ _ _ (by omega) (by omega) (by omega))
      · refine R_iload 103 rfl dX11_worth_101 rfl ?_
        refine R_iload_n 104 rfl dX11_worth_103 rfl ?_
        refine R_icmp_gt 107 111 rfl rfl dX11_worth_104 (by first | assumption | exact ⟨by omega, by omega⟩) (by first | assumption | exact ⟨by omega, by omega⟩) (fun h104 => ?_) (fun h104 => ?_)
        · refine R_iconst 112 rfl dX11_worth_111 ?_
          refine R_istore [_, _, _, _, _, _, _, _, _, _, _, _, _, _] 114 rfl dX11_worth_112 rfl (by decide) ?_
          refine R_aload_n 115 rfl dX11_worth_114 rfl ?_
          refine R_iconst 116 rfl dX11_worth_115 ?_
          refine R_iload 118 rfl dX11_worth_116 rfl ?_
          refine R_callV_i (M' := mX11_isIn) 121 rfl dX11_worth_118 ml_X11_240 kmX11_isIn im_X11_isIn se_X11_isIn rfl ⟨by decide, rfl⟩ (c_X11_isIn _ _ 0 k hW rfl (by decide) (by omega) (by omega)) rfl rfl ⟨Nat.le_of_ble_eq_true rfl, Nat.le_of_ble_eq_true rfl⟩ (Nat.le_of_ble_eq_true rfl) ⟨Nat.le_of_ble_eq_true rfl, Nat.le_of_ble_eq_true rfl⟩ ?_
          refine R_ifp_eq 124 177 rfl rfl dX11_worth_121 (fun h121 => ?_) (fun h121 => ?_)
          · refine R_iconst 178 rfl dX11_worth_177 ?_
            refine R_istore [_, _, _, _, _, _, _, _, _, _, _, _, _, _] 180 rfl dX11_worth_178 rfl (by decide) ?_
            refine R_lload 182 rfl dX11_worth_180 rfl ?_
            refine R_iload 184 rfl dX11_worth_182 rfl ?_
            refine R_if_eq 187 191 rfl rfl dX11_worth_184 (by first | assumption | exact ⟨by omega, by omega⟩) (fun h184 => ?_) (fun h184 => ?_)
            rotate_left
            · exact absurd h184 (by omega)
            refine R_lconst 192 rfl dX11_worth_191 ?_
            refine R_topL (b := 0) rfl ?_
            refine R_ladd 193 rfl dX11_worth_192 ?_
            refine R_lstore [_, _, _, _, _, _, _, _, _, _, _, _, _, _] 195 rfl dX11_worth_193 rfl (by decide) ?_
            refine R_lload 197 rfl dX11_worth_195 rfl ?_
            refine R_iload 199 rfl dX11_worth_197 rfl ?_
            refine R_if_eq 202 215 rfl rfl dX11_worth_199 (by first | assumption | exact ⟨by omega, by omega⟩) (fun h199 => ?_) (fun h199 => ?_)
            rotate_left
            · exact absurd h199 (by omega)
            refine R_lconst 216 rfl dX11_worth_215 ?_
            refine R_topL (b := 0) rfl ?_
            refine R_ladd 217 rfl dX11_worth_216 ?_
            refine R_lstore [_, _, _, _, _, _, _, _, _, _, _, _, _, _] 219 rfl dX11_worth_217 rfl (by decide) ?_
            refine R_iinc [_, _, _, _, _, _, _, _, _, _, _, _, _, _] 222 rfl dX11_worth_219 rfl rfl (by decide) ?_
            refine R_goto 65 rfl dX11_worth_222 ?_
            first
              | (have y1 : qtP L B ch kn.toNat yr 2 k = true := e1.mpr ⟨h121, by omega⟩
                 rw [pI_t y1] at c1
                 first
                   | (rw [pI_t (e2.mpr ⟨y1, h208⟩)] at c2
                      exact ih (by omega) _ _ _ _ _ _ (by omega) (by omega) (by omega))
                   | (rw [pI_f (fun q => h208 (e2.mp q).2)] at c2
                      exact ih (by omega) _ _ _ _ _ _ (by omega) (by omega) (by omega)))
              | (have y1 : ¬ qtP L B ch kn.toNat yr 2 k = true := fun q => by have q2 := e1.mp q; first | exact h121 q2.1 | (have q3 := q2.2; omega)
                 rw [pI_f y1] at c1
                 rw [pI_f (fun q => y1 (e2.mp q).1)] at c2
                 exact ih (by omega) _ _ _ _ _ _ (by omega) (by omega) (by omega))
          · refine R_iload 126 rfl dX11_worth_124 rfl ?_
            refine R_iload 128 rfl dX11_worth_126 rfl ?_
            refine R_iconst 129 rfl dX11_worth_128 ?_
            refine R_icmp_ge 132 136 rfl rfl dX11_worth_129 (by first | assumption | exact ⟨by omega, by omega⟩) (by first | assumption | exact ⟨by omega, by omega⟩) (fun h129 => ?_) (fun h129 => ?_)
            · exact absurd h129 (by omega)
            refine R_iconst 133 rfl dX11_worth_132 ?_
            refine R_goto 137 rfl dX11_worth_133 ?_
            refine R_icmp_ne 140 177 rfl rfl dX11_worth_137 (by first | assumption | exact ⟨by omega, by omega⟩) (by first | assumption | exact ⟨by omega, by omega⟩) (fun h137 => ?_) (fun h137 => ?_)
            rotate_left
            · exact absurd h137 (by omega)
            refine R_iconst 178 rfl dX11_worth_177 ?_
            refine R_istore [_, _, _, _, _, _, _, _, _, _, _, _, _, _] 180 rfl dX11_worth_178 rfl (by decide) ?_
            refine R_lload 182 rfl dX11_worth_180 rfl ?_
            refine R_iload 184 rfl dX11_worth_182 rfl ?_
            refine R_if_eq 187 191 rfl rfl dX11_worth_184 (by first | assumption | exact ⟨by omega, by omega⟩) (fun h184 => ?_) (fun h184 => ?_)
            rotate_left
            · exact absurd h184 (by omega)
            refine R_lconst 192 rfl dX11_worth_191 ?_
            refine R_topL (b := 0) rfl ?_
            refine R_ladd 193 rfl dX11_worth_192 ?_
            refine R_lstore [_, _, _, _, _, _, _, _, _, _, _, _, _, _] 195 rfl dX11_worth_193 rfl (by decide) ?_
            refine R_lload 197 rfl dX11_worth_195 rfl ?_
            refine R_iload 199 rfl dX11_worth_197 rfl ?_
            refine R_if_eq 202 215 rfl rfl dX11_worth_199 (by first | assumption | exact ⟨by omega, by omega⟩) (fun h199 => ?_) (fun h199 => ?_)
            rotate_left
            · exact absurd h199 (by omega)
            refine R_lconst 216 rfl dX11_worth_215 ?_
            refine R_topL (b := 0) rfl ?_
            refine R_ladd 217 rfl dX11_worth_216 ?_
            refine R_lstore [_, _, _, _, _, _, _, _, _, _, _, _, _, _] 219 rfl dX11_worth_217 rfl (by decide) ?_
            refine R_iinc [_, _, _, _, _, _, _, _, _, _, _, _, _, _] 222 rfl dX11_worth_219 rfl rfl (by decide) ?_
            refine R_goto 65 rfl dX11_worth_222 ?_
            first
              | (have y1 : qtP L B ch kn.toNat yr 2 k = true := e1.mpr ⟨h121, by omega⟩
                 rw [pI_t y1] at c1
                 first
                   | (rw [pI_t (e2.mpr ⟨y1, h208⟩)] at c2
                      exact ih (by omega) _ _ _ _ _ _ (by omega) (by omega) (by omega))
                   | (rw [pI_f (fun q => h208 (e2.mp q).2)] at c2
                      exact ih (by omega) _ _ _ _ _ _ (by omega) (by omega) (by omega)))
              | (have y1 : ¬ qtP L B ch kn.toNat yr 2 k = true := fun q => by have q2 := e1.mp q; first | exact h121 q2.1 | (have q3 := q2.2; omega)
                 rw [pI_f y1] at c1
                 rw [pI_f (fun q => y1 (e2.mp q).1)] at c2
                 exact ih (by omega) _ _ _ _ _ _ (by omega) (by omega) (by omega))
        · refine R_iconst 108 rfl dX11_worth_107 ?_
          refine R_goto 112 rfl dX11_worth_108 ?_
          refine R_istore [_, _, _, _, _, _, _, _, _, _, _, _, _, _] 114 rfl dX11_worth_112 rfl (by decide) ?_
          refine R_aload_n 115 rfl dX11_worth_114 rfl ?_
          refine R_iconst 116 rfl dX11_worth_115 ?_
          refine R_iload 118 rfl dX11_worth_116 rfl ?_
          refine R_callV_i (M' := mX11_isIn) 121 rfl dX11_worth_118 ml_X11_240 kmX11_isIn im_X11_isIn se_X11_isIn rfl ⟨by decide, rfl⟩ (c_X11_isIn _ _ 0 k hW rfl (by decide) (by omega) (by omega)) rfl rfl ⟨Nat.le_of_ble_eq_true rfl, Nat.le_of_ble_eq_true rfl⟩ (Nat.le_of_ble_eq_true rfl) ⟨Nat.le_of_ble_eq_true rfl, Nat.le_of_ble_eq_true rfl⟩ ?_
          refine R_ifp_eq 124 177 rfl rfl dX11_worth_121 (fun h121 => ?_) (fun h121 => ?_)
          · refine R_iconst 178 rfl dX11_worth_177 ?_
            refine R_istore [_, _, _, _, _, _, _, _, _, _, _, _, _, _] 180 rfl dX11_worth_178 rfl (by decide) ?_
            refine R_lload 182 rfl dX11_worth_180 rfl ?_
            refine R_iload 184 rfl dX11_worth_182 rfl ?_
            refine R_if_eq 187 191 rfl rfl dX11_worth_184 (by first | assumption | exact ⟨by omega, by omega⟩) (fun h184 => ?_) (fun h184 => ?_)
            rotate_left
            · exact absurd h184 (by omega)
            refine R_lconst 192 rfl dX11_worth_191 ?_
            refine R_topL (b := 0) rfl ?_
            refine R_ladd 193 rfl dX11_worth_192 ?_
            refine R_lstore [_, _, _, _, _, _, _, _, _, _, _, _, _, _] 195 rfl dX11_worth_193 rfl (by decide) ?_
            refine R_lload 197 rfl dX11_worth_195 rfl ?_
            refine R_iload 199 rfl dX11_worth_197 rfl ?_
            refine R_if_eq 202 215 rfl rfl dX11_worth_199 (by first | assumption | exact ⟨by omega, by omega⟩) (fun h199 => ?_) (fun h199 => ?_)
            rotate_left
            · exact absurd h199 (by omega)
            refine R_lconst 216 rfl dX11_worth_215 ?_
            refine R_topL (b := 0) rfl ?_
            refine R_ladd 217 rfl dX11_worth_216 ?_
            refine R_lstore [_, _, _, _, _, _, _, _, _, _, _, _, _, _] 219 rfl dX11_worth_217 rfl (by decide) ?_
            refine R_iinc [_, _, _, _, _, _, _, _, _, _, _, _, _, _] 222 rfl dX11_worth_219 rfl rfl (by decide) ?_
            refine R_goto 65 rfl dX11_worth_222 ?_
            first
              | (have y1 : qtP L B ch kn.toNat yr 2 k = true := e1.mpr ⟨h121, by omega⟩
                 rw [pI_t y1] at c1
                 first
                   | (rw [pI_t (e2.mpr ⟨y1, h208⟩)] at c2
                      exact ih (by omega) _ _ _ _ _ _ (by omega) (by omega) (by omega))
                   | (rw [pI_f (fun q => h208 (e2.mp q).2)] at c2
                      exact ih (by omega) _ _ _ _ _ _ (by omega) (by omega) (by omega)))
              | (have y1 : ¬ qtP L B ch kn.toNat yr 2 k = true := fun q => by have q2 := e1.mp q; first | exact h121 q2.1 | (have q3 := q2.2; omega)
                 rw [pI_f y1] at c1
                 rw [pI_f (fun q => y1 (e2.mp q).1)] at c2
                 exact ih (by omega) _ _ _ _ _ _ (by omega) (by omega) (by omega))
          · refine R_iload 126 rfl dX11_worth_124 rfl ?_
            refine R_iload 128 rfl dX11_worth_126 rfl ?_
            refine R_iconst 129 rfl dX11_worth_128 ?_
            refine R_icmp_ge 132 136 rfl rfl dX11_worth_129 (by first | assumption | exact ⟨by omega, by omega⟩) (by first | assumption | exact ⟨by omega, by omega⟩) (fun h129 => ?_) (fun h129 => ?_)
            · exact absurd h129 (by omega)
            refine R_iconst 133 rfl dX11_worth_132 ?_
            refine R_goto 137 rfl dX11_worth_133 ?_
            refine R_icmp_ne 140 177 rfl rfl dX11_worth_137 (by first | assumption | exact ⟨by omega, by omega⟩) (by first | assumption | exact ⟨by omega, by omega⟩) (fun h137 => ?_) (fun h137 => ?_)
            · exact absurd h137 (by omega)
            refine R_aload_n 141 rfl dX11_worth_140 rfl ?_
            refine R_iload 143 rfl dX11_worth_141 rfl ?_
            refine R_iconst 144 rfl dX11_worth_143 ?_
            refine R_idiv_p 145 rfl dX11_worth_144 (by first | assumption | exact ⟨by omega, by omega⟩) (by first | assumption | exact ⟨by omega, by omega⟩) (by omega) (by omega) ?_
            refine R_iconst 146 rfl dX11_worth_145 ?_
            refine R_callV_i (M' := mX11_its) 149 rfl dX11_worth_146 ml_X11_153 kmX11_its im_X11_its se_X11_its rfl ⟨by decide, rfl⟩ (c_X11_its _ _ (k / 2) 1 hZ.1 (by omega) (by omega) (by omega) (by omega)) rfl rfl ⟨Nat.le_of_ble_eq_true rfl, Nat.le_of_ble_eq_true rfl⟩ (Nat.le_of_ble_eq_true rfl) ⟨Nat.le_of_ble_eq_true rfl, Nat.le_of_ble_eq_true rfl⟩ ?_
            refine R_iload_n 150 rfl dX11_worth_149 rfl ?_
            refine R_icmp_lt 153 157 rfl rfl dX11_worth_150 (by first | assumption | exact ⟨by omega, by omega⟩) (by first | assumption | exact ⟨by omega, by omega⟩) (fun h150 => ?_) (fun h150 => ?_)
            · refine R_iconst 158 rfl dX11_worth_157 ?_
              refine R_iload 160 rfl dX11_worth_158 rfl ?_
              refine R_iconst 161 rfl dX11_worth_160 ?_
              refine R_irem_p 162 rfl dX11_worth_161 (by first | assumption | exact ⟨by omega, by omega⟩) (by first | assumption | exact ⟨by omega, by omega⟩) (by omega) (by omega) ?_
              refine R_if_ne 165 169 rfl rfl dX11_worth_162 (by first | assumption | exact ⟨by omega, by omega⟩) (fun h162 => ?_) (fun h162 => ?_)
              rotate_left
              · exact absurd h162 (by omega)
              refine R_iconst 170 rfl dX11_worth_169 ?_
              refine R_icmp_ne 173 177 rfl rfl dX11_worth_170 (by first | assumption | exact ⟨by omega, by omega⟩) (by first | assumption | exact ⟨by omega, by omega⟩) (fun h170 => ?_) (fun h170 => ?_)
              · exact absurd h170 (by omega)
              refine R_iconst 174 rfl dX11_worth_173 ?_
              refine R_goto 178 rfl dX11_worth_174 ?_
              refine R_istore [_, _, _, _, _, _, _, _, _, _, _, _, _, _] 180 rfl dX11_worth_178 rfl (by decide) ?_
              refine R_lload 182 rfl dX11_worth_180 rfl ?_
              refine R_iload 184 rfl dX11_worth_182 rfl ?_
              refine R_if_eq 187 191 rfl rfl dX11_worth_184 (by first | assumption | exact ⟨by omega, by omega⟩) (fun h184 => ?_) (fun h184 => ?_)
              · exact absurd h184 (by omega)
              refine R_lconst 188 rfl dX11_worth_187 ?_
              refine R_topL (b := 1) rfl ?_
              refine R_goto 192 rfl dX11_worth_188 ?_
              refine R_ladd 193 rfl dX11_worth_192 ?_
              refine R_lstore [_, _, _, _, _, _, _, _, _, _, _, _, _, _] 195 rfl dX11_worth_193 rfl (by decide) ?_
              refine R_lload 197 rfl dX11_worth_195 rfl ?_
              refine R_iload 199 rfl dX11_worth_197 rfl ?_
              refine R_if_eq 202 215 rfl rfl dX11_worth_199 (by first | assumption | exact ⟨by omega, by omega⟩) (fun h199 => ?_) (fun h199 => ?_)
              · exact absurd h199 (by omega)
              refine R_aload_n 203 rfl dX11_worth_202 rfl ?_
              refine R_iload 205 rfl dX11_worth_203 rfl ?_
              refine R_callV_i (M' := mX11_isAble) 208 rfl dX11_worth_205 ml_X11_246 kmX11_isAble im_X11_isAble se_X11_isAble rfl ⟨by decide, rfl⟩ (c_X11_isAble _ k hZ (by omega) (by omega)) rfl rfl ⟨Nat.le_of_ble_eq_true rfl, Nat.le_of_ble_eq_true rfl⟩ (Nat.le_of_ble_eq_true rfl) ⟨Nat.le_of_ble_eq_true rfl, Nat.le_of_ble_eq_true rfl⟩ ?_
              refine R_ifp_eq 211 215 rfl rfl dX11_worth_208 (fun h208 => ?_) (fun h208 => ?_)
              · refine R_lconst 216 rfl dX11_worth_215 ?_
                refine R_topL (b := 0) rfl ?_
                refine R_ladd 217 rfl dX11_worth_216 ?_
                refine R_lstore [_, _, _, _, _, _, _, _, _, _, _, _, _, _] 219 rfl dX11_worth_217 rfl (by decide) ?_
                refine R_iinc [_, _, _, _, _, _, _, _, _, _, _, _, _, _] 222 rfl dX11_worth_219 rfl rfl (by decide) ?_
                refine R_goto 65 rfl dX11_worth_222 ?_
                first
                  | (have y1 : qtP L B ch kn.toNat yr 2 k = true := e1.mpr ⟨h121, by omega⟩
                     rw [pI_t y1] at c1
                     first
                       | (rw [pI_t (e2.mpr ⟨y1, h208⟩)] at c2
                          exact ih (by omega) _ _ _ _ _ _ (by omega) (by omega) (by omega))
                       | (rw [pI_f (fun q => h208 (e2.mp q).2)] at c2
                          exact ih (by omega) _ _ _ _ _ _ (by omega) (by omega) (by omega)))
                  | (have y1 : ¬ qtP L B ch kn.toNat yr 2 k = true := fun q => by have q2 := e1.mp q; first | exact h121 q2.1 | (have q3 := q2.2; omega)
                     rw [pI_f y1] at c1
                     rw [pI_f (fun q => y1 (e2.mp q).1)] at c2
                     exact ih (by omega) _ _ _ _ _ _ (by omega) (by omega) (by omega))
              · refine R_lconst 212 rfl dX11_worth_211 ?_
                refine R_topL (b := 1) rfl ?_
                refine R_goto 216 rfl dX11_worth_212 ?_
                refine R_ladd 217 rfl dX11_worth_216 ?_
                refine R_lstore [_, _, _, _, _, _, _, _, _, _, _, _, _, _] 219 rfl dX11_worth_217 rfl (by decide) ?_
                refine R_iinc [_, _, _, _, _, _, _, _, _, _, _, _, _, _] 222 rfl dX11_worth_219 rfl rfl (by decide) ?_
                refine R_goto 65 rfl dX11_worth_222 ?_
                first
                  | (have y1 : qtP L B ch kn.toNat yr 2 k = true := e1.mpr ⟨h121, by omega⟩
                     rw [pI_t y1] at c1
                     first
                       | (rw [pI_t (e2.mpr ⟨y1, h208⟩)] at c2
                          exact ih (by omega) _ _ _ _ _ _ (by omega) (by omega) (by omega))
                       | (rw [pI_f (fun q => h208 (e2.mp q).2)] at c2
                          exact ih (by omega) _ _ _ _ _ _ (by omega) (by omega) (by omega)))
                  | (have y1 : ¬ qtP L B ch kn.toNat yr 2 k = true := fun q => by have q2 := e1.mp q; first | exact h121 q2.1 | (have q3 := q2.2; omega)
                     rw [pI_f y1] at c1
                     rw [pI_f (fun q => y1 (e2.mp q).1)] at c2
                     exact ih (by omega) _ _ _ _ _ _ (by omega) (by omega) (by omega))
            · refine R_iconst 154 rfl dX11_worth_153 ?_
              refine R_goto 158 rfl dX11_worth_154 ?_
              refine R_iload 160 rfl dX11_worth_158 rfl ?_
              refine R_iconst 161 rfl dX11_worth_160 ?_
              refine R_irem_p 162 rfl dX11_worth_161 (by first | assumption | exact ⟨by omega, by omega⟩) (by first | assumption | exact ⟨by omega, by omega⟩) (by omega) (by omega) ?_
              refine R_if_ne 165 169 rfl rfl dX11_worth_162 (by first | assumption | exact ⟨by omega, by omega⟩) (fun h162 => ?_) (fun h162 => ?_)
              rotate_left
              · exact absurd h162 (by omega)
              refine R_iconst 170 rfl dX11_worth_169 ?_
              refine R_icmp_ne 173 177 rfl rfl dX11_worth_170 (by first | assumption | exact ⟨by omega, by omega⟩) (by first | assumption | exact ⟨by omega, by omega⟩) (fun h170 => ?_) (fun h170 => ?_)
              rotate_left
              · exact absurd h170 (by omega)
              refine R_iconst 178 rfl dX11_worth_177 ?_
              refine R_istore [_, _, _, _, _, _, _, _, _, _, _, _, _, _] 180 rfl dX11_worth_178 rfl (by decide) ?_
              refine R_lload 182 rfl dX11_worth_180 rfl ?_
              refine R_iload 184 rfl dX11_worth_182 rfl ?_
              refine R_if_eq 187 191 rfl rfl dX11_worth_184 (by first | assumption | exact ⟨by omega, by omega⟩) (fun h184 => ?_) (fun h184 => ?_)
              rotate_left
              · exact absurd h184 (by omega)
              refine R_lconst 192 rfl dX11_worth_191 ?_
              refine R_topL (b := 0) rfl ?_
              refine R_ladd 193 rfl dX11_worth_192 ?_
              refine R_lstore [_, _, _, _, _, _, _, _, _, _, _, _, _, _] 195 rfl dX11_worth_193 rfl (by decide) ?_
              refine R_lload 197 rfl dX11_worth_195 rfl ?_
              refine R_iload 199 rfl dX11_worth_197 rfl ?_
              refine R_if_eq 202 215 rfl rfl dX11_worth_199 (by first | assumption | exact ⟨by omega, by omega⟩) (fun h199 => ?_) (fun h199 => ?_)
              rotate_left
              · exact absurd h199 (by omega)
              refine R_lconst 216 rfl dX11_worth_215 ?_
              refine R_topL (b := 0) rfl ?_
              refine R_ladd 217 rfl dX11_worth_216 ?_
              refine R_lstore [_, _, _, _, _, _, _, _, _, _, _, _, _, _] 219 rfl dX11_worth_217 rfl (by decide) ?_
              refine R_iinc [_, _, _, _, _, _, _, _, _, _, _, _, _, _] 222 rfl dX11_worth_219 rfl rfl (by decide) ?_
              refine R_goto 65 rfl dX11_worth_222 ?_
              first
                | (have y1 : qtP L B ch kn.toNat yr 2 k = true := e1.mpr ⟨h121, by omega⟩
                   rw [pI_t y1] at c1
                   first
                     | (rw [pI_t (e2.mpr ⟨y1, h208⟩)] at c2
                        exact ih (by omega) _ _ _ _ _ _ (by omega) (by omega) (by omega))
                     | (rw [pI_f (fun q => h208 (e2.mp q).2)] at c2
                        exact ih (by omega) _ _ _ _ _ _ (by omega) (by omega) (by omega)))
                | (have y1 : ¬ qtP L B ch kn.toNat yr 2 k = true := fun q => by have q2 := e1.mp q; first | exact h121 q2.1 | (have q3 := q2.2; omega)
                   rw [pI_f y1] at c1
                   rw [pI_f (fun q => y1 (e2.mp q).1)] at c2
                   exact ih (by omega) _ _ _ _ _ _ (by omega) (by omega) (by omega))
  refine R_iload 52 rfl dX11_worth_50 rfl ?_
  refine R_iconst 53 rfl dX11_worth_52 ?_
  refine R_icmp_ge 56 282 rfl rfl dX11_worth_53 (by first | assumption | exact ⟨by omega, by omega⟩) (by first | assumption | exact ⟨by omega, by omega⟩) (fun h53 => ?_) (fun h53 => ?_)
  · exact absurd h53 (by omega)
  refine R_lconst 57 rfl dX11_worth_56 ?_
  refine R_topL (b := 0) rfl ?_
  refine R_lstore [_, _, _, _, _, _, _, _, _, _, _, _, _, _] 59 rfl dX11_worth_57 rfl (by decide) ?_
  refine R_lconst 60 rfl dX11_worth_59 ?_
  refine R_topL (b := 0) rfl ?_
  refine R_lstore [_, _, _, _, _, _, _, _, _, _, _, _, _, _] 62 rfl dX11_worth_60 rfl (by decide) ?_
  refine R_iconst 63 rfl dX11_worth_62 ?_
  refine R_istore [_, _, _, _, _, _, _, _, _, _, _, _, _, _] 65 rfl dX11_worth_63 rfl (by decide) ?_
  exact Li 0 (by omega) _ _ _ _ _ _ rfl rfl rfl
set_option maxHeartbeats 2000000 in
theorem w_0 (kn yr w nb : Int) (m1 : Mem) {x6 x8 x10 x11 x12 x13 : Option AV} {x7 x9 : Option AV} (hR : RS L B ch m) (ho : (0 ≤ kn ∧ kn ≤ 1) ∧ (0 ≤ yr ∧ yr ≤ 89) ∧ (0 ≤ w ∧ w ≤ 1)) (hI : wI L B ch m m1 (qtM L B ch kn.toNat yr) (qtB L B ch kn.toNat yr) 0 nb) : R Γ mX11_worth { frames := 7, cells := 0, slots := 0, locals := 280 } 0 0 (QM L B ch m (a_worth L B ch kn yr w)) 0 0 50 [some (vr 96), some (vi kn), some (vi yr), some (vi w), some (vi nb), some (vi 0), x6, x7, x8, x9, x10, x11, x12, x13] [] SH m1 := by
  obtain ⟨hf, hZ, hr, n01, n0, n1⟩ := id hI
  have hO := hR.2.2.2.2.1
  have hb := hO.1
  have hl := hR.2.2.1.1
  have qr := qt_rg L B ch kn.toNat yr hb
  have qa := qt_ab L B ch kn.toNat yr 3
  obtain ⟨d1, d2⟩ := we_bd qr
  have d20 := d2 0
  have d21 := d2 1
  have d22 := d2 2
  have d23 := d2 3
  have hW := hZ.w
  have Li : ∀ k, k ≤ 2 * B.1 → ∀ n c z y11 y12 y13, n = (cnt (qtP L B ch kn.toNat yr 3) k : Int) → c = (cnt (qtQ L B ch kn.toNat yr 3) k : Int) → z = (k : Int) → R Γ mX11_worth { frames := 7, cells := 0, slots := 0, locals := 280 } 0 0 (QM L B ch m (a_worth L B ch kn yr w)) 0 0 65 [some (vr 96), some (vi kn), some (vi yr), some (vi w), some (vi nb), some (vi 0), some (vl n), none, some (vl c), none, some (vi z), y11, y12, y13] [] SH m1 := by
    refine up_ind (2 * B.1) (fun k hk ih n c z y11 y12 y13 hn hc hz => ?_)
    have cl := cnt_le (qtP L B ch kn.toNat yr 3) k
    have cl2 := cnt_le (qtQ L B ch kn.toNat yr 3) k
    refine R_iload 67 rfl dX11_worth_65 rfl ?_
    refine R_iconst 68 rfl dX11_worth_67 ?_
    refine R_aload_n 69 rfl dX11_worth_68 rfl ?_
    refine R_callV_i (M' := mX11_size) 72 rfl dX11_worth_69 ml_X11_150 kmX11_size im_X11_size se_X11_size rfl ⟨by decide, rfl⟩ (c_X11_size hZ.1) rfl rfl ⟨Nat.le_of_ble_eq_true rfl, Nat.le_of_ble_eq_true rfl⟩ (Nat.le_of_ble_eq_true rfl) ⟨Nat.le_of_ble_eq_true rfl, Nat.le_of_ble_eq_true rfl⟩ ?_
    refine R_imul 73 rfl dX11_worth_72 ?_
    refine R_icmp_ge 76 225 rfl rfl dX11_worth_73 (by first | assumption | exact ⟨by omega, by omega⟩) (by first | assumption | exact ⟨by omega, by omega⟩) (fun h73 => ?_) (fun h73 => ?_)
    · have ek : k = 2 * B.1 := by omega
      subst ek
      have en : n = qtM L B ch kn.toNat yr 3 := hn
      have ec : c = qtB L B ch kn.toNat yr 3 := hc
      have ws : weN (qtM L B ch kn.toNat yr) (qtB L B ch kn.toNat yr) 1 = weN (qtM L B ch kn.toNat yr) (qtB L B ch kn.toNat yr) 0 + c * weQ (qtM L B ch kn.toNat yr) 3 := by rw [ec]; rfl
      have wr := weN_rg qr 1
      have qg := qr 3
      refine R_iload 227 rfl dX11_worth_225 rfl ?_
      refine R_if_ne 230 237 rfl rfl dX11_worth_227 (by first | assumption | exact ⟨by omega, by omega⟩) (fun h227 => ?_) (fun h227 => ?_)
      · refine R_iconst 238 rfl dX11_worth_237 ?_
        refine R_goto 242 rfl dX11_worth_238 ?_
        refine R_istore [_, _, _, _, _, _, _, _, _, _, _, _, _, _] 244 rfl dX11_worth_242 rfl (by decide) ?_
        refine R_lload 246 rfl dX11_worth_244 rfl ?_
        refine R_lconst 247 rfl dX11_worth_246 ?_
        refine R_topL (b := 0) rfl ?_
        refine R_lif_le 248 251 276 rfl rfl rfl dX11_worth_247 dX11_worth_248 (by first | assumption | exact ⟨by omega, by omega⟩ | exact rg_L (by assumption)) (by first | assumption | exact ⟨by omega, by omega⟩ | exact rg_L (by assumption)) (fun h248 => ?_) (fun h248 => ?_)
        · refine R_iinc [_, _, _, _, _, _, _, _, _, _, _, _, _, _] 279 rfl dX11_worth_276 rfl rfl (by decide) ?_
          refine R_goto 50 rfl dX11_worth_279 ?_
          first
            | (exfalso; omega)
            | (refine w_1 kn yr w _ _ hR ho ⟨hf.tr f273.m, f273.z hZ, ?_, by omega, ?_, ?_⟩
               · rw [ws]; exact r273
               · intro q; have := n0; omega
               · intro q; have := n1; omega)
            | (refine w_1 kn yr w _ _ hR ho ⟨hf, hZ, ?_, by omega, ?_, ?_⟩
               · have c0 : c = 0 := by omega
                 rw [ws, c0]
                 simpa using hr
               · intro q; have := n0; omega
               · intro q; have := n1; omega)
        · refine R_aload_n 252 rfl dX11_worth_251 rfl ?_
          refine R_iload 254 rfl dX11_worth_252 rfl ?_
          refine R_if_eq 257 263 rfl rfl dX11_worth_254 (by first | assumption | exact ⟨by omega, by omega⟩) (fun h254 => ?_) (fun h254 => ?_)
          rotate_left
          · exact absurd h254 (by omega)
          refine R_lload 265 rfl dX11_worth_263 rfl ?_
          refine R_goto 271 rfl dX11_worth_265 ?_
          refine R_lload 273 rfl dX11_worth_271 rfl ?_
          refine R_callV_V (M' := mX11_plus) 276 rfl dX11_worth_273 ml_X11_310 kmX11_plus im_X11_plus se_X11_plus rfl ⟨by decide, rfl⟩ (c_X11_plus (weN (qtM L B ch kn.toNat yr) (qtB L B ch kn.toNat yr) 0) (weD (qtM L B ch kn.toNat yr)) _ _ (weQ (qtM L B ch kn.toNat yr) 3) hr ⟨d1.1, by omega⟩ (by omega) (by rw [en, weD_q _ 3 (by omega), we, if_neg (by omega)]) ⟨by omega, by omega⟩ (by rw [← ws]; exact ⟨by omega, by omega⟩)) rfl rfl ⟨Nat.le_of_ble_eq_true rfl, Nat.le_of_ble_eq_true rfl⟩ (Nat.le_of_ble_eq_true rfl) ⟨Nat.le_of_ble_eq_true rfl, Nat.le_of_ble_eq_true rfl⟩ ?_
          rintro m273 h273
          obtain ⟨f273, r273⟩ := h273
          refine R_iinc [_, _, _, _, _, _, _, _, _, _, _, _, _, _] 279 rfl dX11_worth_276 rfl rfl (by decide) ?_
          refine R_goto 50 rfl dX11_worth_279 ?_
          first
            | (exfalso; omega)
            | (refine w_1 kn yr w _ _ hR ho ⟨hf.tr f273.m, f273.z hZ, ?_, by omega, ?_, ?_⟩
               · rw [ws]; exact r273
               · intro q; have := n0; omega
               · intro q; have := n1; omega)
            | (refine w_1 kn yr w _ _ hR ho ⟨hf, hZ, ?_, by omega, ?_, ?_⟩
               · have c0 : c = 0 := by omega
                 rw [ws, c0]
                 simpa using hr
               · intro q; have := n0; omega
               · intro q; have := n1; omega)
      · refine R_lload 232 rfl dX11_worth_230 rfl ?_
        refine R_lconst 233 rfl dX11_worth_232 ?_
        refine R_topL (b := 0) rfl ?_
        refine R_lif_ne 234 237 241 rfl rfl rfl dX11_worth_233 dX11_worth_234 (by first | assumption | exact ⟨by omega, by omega⟩ | exact rg_L (by assumption)) (by first | assumption | exact ⟨by omega, by omega⟩ | exact rg_L (by assumption)) (fun h234 => ?_) (fun h234 => ?_)
        · refine R_iconst 242 rfl dX11_worth_241 ?_
          refine R_istore [_, _, _, _, _, _, _, _, _, _, _, _, _, _] 244 rfl dX11_worth_242 rfl (by decide) ?_
          refine R_lload 246 rfl dX11_worth_244 rfl ?_
          refine R_lconst 247 rfl dX11_worth_246 ?_
          refine R_topL (b := 0) rfl ?_
          refine R_lif_le 248 251 276 rfl rfl rfl dX11_worth_247 dX11_worth_248 (by first | assumption | exact ⟨by omega, by omega⟩ | exact rg_L (by assumption)) (by first | assumption | exact ⟨by omega, by omega⟩ | exact rg_L (by assumption)) (fun h248 => ?_) (fun h248 => ?_)
          · refine R_iinc [_, _, _, _, _, _, _, _, _, _, _, _, _, _] 279 rfl dX11_worth_276 rfl rfl (by decide) ?_
            refine R_goto 50 rfl dX11_worth_279 ?_
            first
              | (exfalso; omega)
              | (refine w_1 kn yr w _ _ hR ho ⟨hf.tr f273.m, f273.z hZ, ?_, by omega, ?_, ?_⟩
                 · rw [ws]; exact r273
                 · intro q; have := n0; omega
                 · intro q; have := n1; omega)
              | (refine w_1 kn yr w _ _ hR ho ⟨hf, hZ, ?_, by omega, ?_, ?_⟩
                 · have c0 : c = 0 := by omega
                   rw [ws, c0]
                   simpa using hr
                 · intro q; have := n0; omega
                 · intro q; have := n1; omega)
          · refine R_aload_n 252 rfl dX11_worth_251 rfl ?_
            refine R_iload 254 rfl dX11_worth_252 rfl ?_
            refine R_if_eq 257 263 rfl rfl dX11_worth_254 (by first | assumption | exact ⟨by omega, by omega⟩) (fun h254 => ?_) (fun h254 => ?_)
            rotate_left
            · exact absurd h254 (by omega)
            refine R_lload 265 rfl dX11_worth_263 rfl ?_
            refine R_goto 271 rfl dX11_worth_265 ?_
            refine R_lload 273 rfl dX11_worth_271 rfl ?_
            refine R_callV_V (M' := mX11_plus) 276 rfl dX11_worth_273 ml_X11_310 kmX11_plus im_X11_plus se_X11_plus rfl ⟨by decide, rfl⟩ (c_X11_plus (weN (qtM L B ch kn.toNat yr) (qtB L B ch kn.toNat yr) 0) (weD (qtM L B ch kn.toNat yr)) _ _ (weQ (qtM L B ch kn.toNat yr) 3) hr ⟨d1.1, by omega⟩ (by omega) (by rw [en, weD_q _ 3 (by omega), we, if_neg (by omega)]) ⟨by omega, by omega⟩ (by rw [← ws]; exact ⟨by omega, by omega⟩)) rfl rfl ⟨Nat.le_of_ble_eq_true rfl, Nat.le_of_ble_eq_true rfl⟩ (Nat.le_of_ble_eq_true rfl) ⟨Nat.le_of_ble_eq_true rfl, Nat.le_of_ble_eq_true rfl⟩ ?_
            rintro m273 h273
            obtain ⟨f273, r273⟩ := h273
            refine R_iinc [_, _, _, _, _, _, _, _, _, _, _, _, _, _] 279 rfl dX11_worth_276 rfl rfl (by decide) ?_
            refine R_goto 50 rfl dX11_worth_279 ?_
            first
              | (exfalso; omega)
              | (refine w_1 kn yr w _ _ hR ho ⟨hf.tr f273.m, f273.z hZ, ?_, by omega, ?_, ?_⟩
                 · rw [ws]; exact r273
                 · intro q; have := n0; omega
                 · intro q; have := n1; omega)
              | (refine w_1 kn yr w _ _ hR ho ⟨hf, hZ, ?_, by omega, ?_, ?_⟩
                 · have c0 : c = 0 := by omega
                   rw [ws, c0]
                   simpa using hr
                 · intro q; have := n0; omega
                 · intro q; have := n1; omega)
        · refine R_iconst 238 rfl dX11_worth_237 ?_
          refine R_goto 242 rfl dX11_worth_238 ?_
          refine R_istore [_, _, _, _, _, _, _, _, _, _, _, _, _, _] 244 rfl dX11_worth_242 rfl (by decide) ?_
          refine R_lload 246 rfl dX11_worth_244 rfl ?_
          refine R_lconst 247 rfl dX11_worth_246 ?_
          refine R_topL (b := 0) rfl ?_
          refine R_lif_le 248 251 276 rfl rfl rfl dX11_worth_247 dX11_worth_248 (by first | assumption | exact ⟨by omega, by omega⟩ | exact rg_L (by assumption)) (by first | assumption | exact ⟨by omega, by omega⟩ | exact rg_L (by assumption)) (fun h248 => ?_) (fun h248 => ?_)
          · refine R_iinc [_, _, _, _, _, _, _, _, _, _, _, _, _, _] 279 rfl dX11_worth_276 rfl rfl (by decide) ?_
            refine R_goto 50 rfl dX11_worth_279 ?_
            first
              | (exfalso; omega)
              | (refine w_1 kn yr w _ _ hR ho ⟨hf.tr f273.m, f273.z hZ, ?_, by omega, ?_, ?_⟩
                 · rw [ws]; exact r273
                 · intro q; have := n0; omega
                 · intro q; have := n1; omega)
              | (refine w_1 kn yr w _ _ hR ho ⟨hf, hZ, ?_, by omega, ?_, ?_⟩
                 · have c0 : c = 0 := by omega
                   rw [ws, c0]
                   simpa using hr
                 · intro q; have := n0; omega
                 · intro q; have := n1; omega)
          · refine R_aload_n 252 rfl dX11_worth_251 rfl ?_
            refine R_iload 254 rfl dX11_worth_252 rfl ?_
            refine R_if_eq 257 263 rfl rfl dX11_worth_254 (by first | assumption | exact ⟨by omega, by omega⟩) (fun h254 => ?_) (fun h254 => ?_)
            rotate_left
            · exact absurd h254 (by omega)
            refine R_lload 265 rfl dX11_worth_263 rfl ?_
            refine R_goto 271 rfl dX11_worth_265 ?_
            refine R_lload 273 rfl dX11_worth_271 rfl ?_
            refine R_callV_V (M' := mX11_plus) 276 rfl dX11_worth_273 ml_X11_310 kmX11_plus im_X11_plus se_X11_plus rfl ⟨by decide, rfl⟩ (c_X11_plus (weN (qtM L B ch kn.toNat yr) (qtB L B ch kn.toNat yr) 0) (weD (qtM L B ch kn.toNat yr)) _ _ (weQ (qtM L B ch kn.toNat yr) 3) hr ⟨d1.1, by omega⟩ (by omega) (by rw [en, weD_q _ 3 (by omega), we, if_neg (by omega)]) ⟨by omega, by omega⟩ (by rw [← ws]; exact ⟨by omega, by omega⟩)) rfl rfl ⟨Nat.le_of_ble_eq_true rfl, Nat.le_of_ble_eq_true rfl⟩ (Nat.le_of_ble_eq_true rfl) ⟨Nat.le_of_ble_eq_true rfl, Nat.le_of_ble_eq_true rfl⟩ ?_
            rintro m273 h273
            obtain ⟨f273, r273⟩ := h273
            refine R_iinc [_, _, _, _, _, _, _, _, _, _, _, _, _, _] 279 rfl dX11_worth_276 rfl rfl (by decide) ?_
            refine R_goto 50 rfl dX11_worth_279 ?_
            first
              | (exfalso; omega)
              | (refine w_1 kn yr w _ _ hR ho ⟨hf.tr f273.m, f273.z hZ, ?_, by omega, ?_, ?_⟩
                 · rw [ws]; exact r273
                 · intro q; have := n0; omega
                 · intro q; have := n1; omega)
              | (refine w_1 kn yr w _ _ hR ho ⟨hf, hZ, ?_, by omega, ?_, ?_⟩
                 · have c0 : c = 0 := by omega
                   rw [ws, c0]
                   simpa using hr
                 · intro q; have := n0; omega
                 · intro q; have := n1; omega)
    · have g4 := hO.2.1 (k / 2) (by omega)
      have p4 := hR.2.2.1.2.2.1 (B.2.1 0 (k / 2)).toNat (by omega)
      have e1 := qtP_iff2 (L := L) (B := B) (ch := ch) (kn := kn.toNat) (g := 3) (k := k) (yr := yr)
      have e2 := qtQ_iff2 (L := L) (B := B) (ch := ch) (kn := kn.toNat) (g := 3) (k := k) (yr := yr)
      have c1 := cnt_pI (qtP L B ch kn.toNat yr 3) k
      have c2 := cnt_pI (qtQ L B ch kn.toNat yr 3) k
      have sr : L.2.1 (2 + kn.toNat) (B.2.1 0 (k / 2)).toNat = -4 ∨ (0 ≤ L.2.1 (2 + kn.toNat) (B.2.1 0 (k / 2)).toNat ∧ L.2.1 (2 + kn.toNat) (B.2.1 0 (k / 2)).toNat ≤ 89) := by
        rcases (show kn.toNat = 0 ∨ kn.toNat = 1 by omega) with q | q
        · rw [q]; exact p4.2.2.2.1
        · rw [q]; exact p4.2.2.2.2
      have qg : (0 ≤ L.2.1 (2 + kn.toNat) (B.2.1 0 (k / 2)).toNat ∧ L.2.1 (2 + kn.toNat) (B.2.1 0 (k / 2)).toNat ≤ yr ∧ yr ≤ B.2.1 1 (k / 2) → qtG L B kn.toNat yr k = 3) ∧ (0 ≤ L.2.1 (2 + kn.toNat) (B.2.1 0 (k / 2)).toNat ∧ L.2.1 (2 + kn.toNat) (B.2.1 0 (k / 2)).toNat ≤ yr ∧ ¬ yr ≤ B.2.1 1 (k / 2) → qtG L B kn.toNat yr k = 2) ∧ (¬ (0 ≤ L.2.1 (2 + kn.toNat) (B.2.1 0 (k / 2)).toNat ∧ L.2.1 (2 + kn.toNat) (B.2.1 0 (k / 2)).toNat ≤ yr) ∧ yr ≤ B.2.1 1 (k / 2) → qtG L B kn.toNat yr k = 1) ∧ (¬ (0 ≤ L.2.1 (2 + kn.toNat) (B.2.1 0 (k / 2)).toNat ∧ L.2.1 (2 + kn.toNat) (B.2.1 0 (k / 2)).toNat ≤ yr) ∧ ¬ yr ≤ B.2.1 1 (k / 2) → qtG L B kn.toNat yr k = 0) := by
        unfold qtG
        refine ⟨fun q => ?_, fun q => ?_, fun q => ?_, fun q => ?_⟩
        · rw [if_pos ⟨q.1, q.2.1⟩, if_pos q.2.2]; rfl
        · rw [if_pos ⟨q.1, q.2.1⟩, if_neg q.2.2]; rfl
        · rw [if_neg q.1, if_pos q.2]; rfl
        · rw [if_neg q.1, if_neg q.2]; rfl
      refine R_aload_n 77 rfl dX11_worth_76 rfl ?_
      refine R_aload_n 78 rfl dX11_worth_77 rfl ?_
      refine R_iload 80 rfl dX11_worth_78 rfl ?_
      refine R_iconst 81 rfl dX11_worth_80 ?_
      refine R_idiv_p 82 rfl dX11_worth_81 (by first | assumption | exact ⟨by omega, by omega⟩) (by first | assumption | exact ⟨by omega, by omega⟩) (by omega) (by omega) ?_
      refine R_iconst 83 rfl dX11_worth_82 ?_
      refine R_callV_i (M' := mX11_its) 86 rfl dX11_worth_83 ml_X11_153 kmX11_its im_X11_its se_X11_its rfl ⟨by decide, rfl⟩ (c_X11_its _ _ (k / 2) 0 hZ.1 (by omega) (by omega) (by omega) (by omega)) rfl rfl ⟨Nat.le_of_ble_eq_true rfl, Nat.le_of_ble_eq_true rfl⟩ (Nat.le_of_ble_eq_true rfl) ⟨Nat.le_of_ble_eq_true rfl, Nat.le_of_ble_eq_true rfl⟩ ?_
      refine R_iconst 87 rfl dX11_worth_86 ?_
      refine R_iload_n 88 rfl dX11_worth_87 rfl ?_
      refine R_iadd 89 rfl dX11_worth_88 ?_
      refine R_callV_i (M' := mX11_parishOf) 92 rfl dX11_worth_89 ml_X11_156 kmX11_parishOf im_X11_parishOf se_X11_parishOf rfl ⟨by decide, rfl⟩ (c_X11_parishOf _ _ (B.2.1 0 (k / 2)).toNat (2 + kn.toNat) hZ.1 (by omega) (by omega) (by omega) (by omega)) rfl rfl ⟨Nat.le_of_ble_eq_true rfl, Nat.le_of_ble_eq_true rfl⟩ (Nat.le_of_ble_eq_true rfl) ⟨Nat.le_of_ble_eq_true rfl, Nat.le_of_ble_eq_true rfl⟩ ?_
      refine R_istore [_, _, _, _, _, _, _, _, _, _, _, _, _, _] 94 rfl dX11_worth_92 rfl (by decide) ?_
      refine R_iload 96 rfl dX11_worth_94 rfl ?_
      refine R_bipush 98 rfl dX11_worth_96 (by decide) ?_
      refine R_icmp_eq 101 111 rfl rfl dX11_worth_98 (by first | assumption | exact ⟨by omega, by omega⟩) (by first | assumption | exact ⟨by omega, by omega⟩) (fun h98 => ?_) (fun h98 => ?_)
      · refine R_iconst 112 rfl dX11_worth_111 ?_
        refine R_istore [_, _, _, _, _, _, _, _, _, _, _, _, _, _] 114 rfl dX11_worth_112 rfl (by decide) ?_
        refine R_aload_n 115 rfl dX11_worth_114 rfl ?_
        refine R_iconst 116 rfl dX11_worth_115 ?_
        refine R_iload 118 rfl dX11_worth_116 rfl ?_
        refine R_callV_i (M' := mX11_isIn) 121 rfl dX11_worth_118 ml_X11_240 kmX11_isIn im_X11_isIn se_X11_isIn rfl ⟨by decide, rfl⟩ (c_X11_isIn _ _ 0 k hW rfl (by decide) (by omega) (by omega)) rfl rfl ⟨Nat.le_of_ble_eq_true rfl, Nat.le_of_ble_eq_true rfl⟩ (Nat.le_of_ble_eq_true rfl) ⟨Nat.le_of_ble_eq_true rfl, Nat.le_of_ble_eq_true rfl⟩ ?_
        refine R_ifp_eq 124 177 rfl rfl dX11_worth_121 (fun h121 => ?_) (fun h121 => ?_)
        · refine R_iconst 178 rfl dX11_worth_177 ?_
          refine R_istore [_, _, _, _, _, _, _, _, _, _, _, _, _, _] 180 rfl dX11_worth_178 rfl (by decide) ?_
          refine R_lload 182 rfl dX11_worth_180 rfl ?_
          refine R_iload 184 rfl dX11_worth_182 rfl ?_
          refine R_if_eq 187 191 rfl rfl dX11_worth_184 (by first | assumption | exact ⟨by omega, by omega⟩) (fun h184 => ?_) (fun h184 => ?_)
          rotate_left
          · exact absurd h184 (by omega)
          refine R_lconst 192 rfl dX11_worth_191 ?_
          refine R_topL (b := 0) rfl ?_
          refine R_ladd 193 rfl dX11_worth_192 ?_
          refine R_lstore [_, _, _, _, _, _, _, _, _, _, _, _, _, _] 195 rfl dX11_worth_193 rfl (by decide) ?_
          refine R_lload 197 rfl dX11_worth_195 rfl ?_
          refine R_iload 199 rfl dX11_worth_197 rfl ?_
          refine R_if_eq 202 215 rfl rfl dX11_worth_199 (by first | assumption | exact ⟨by omega, by omega⟩) (fun h199 => ?_) (fun h199 => ?_)
          rotate_left
          · exact absurd h199 (by omega)
          refine R_lconst 216 rfl dX11_worth_215 ?_
          refine R_topL (b := 0) rfl ?_
          refine R_ladd 217 rfl dX11_worth_216 ?_
          refine R_lstore [_, _, _, _, _, _, _, _, _, _, _, _, _, _] 219 rfl dX11_worth_217 rfl (by decide) ?_
          refine R_iinc [_, _, _, _, _, _, _, _, _, _, _, _, _, _] 222 rfl dX11_worth_219 rfl rfl (by decide) ?_
          refine R_goto 65 rfl dX11_worth_222 ?_
          first
            | (have y1 : qtP L B ch kn.toNat yr 3 k = true := e1.mpr ⟨h121, by omega⟩
               rw [pI_t y1] at c1
               first
                 | (rw [pI_t (e2.mpr ⟨y1, h208⟩)] at c2
                    exact ih (by omega) _ _ _ _ _ _ (by omega) (by omega) (by omega))
                 | (rw [pI_f (fun q => h208 (e2.mp q).2)] at c2
                    exact ih (by omega) _ _ _ _ _ _ (by omega) (by omega) (by omega)))
            | (have y1 : ¬ qtP L B ch kn.toNat yr 3 k = true := fun q => by have q2 := e1.mp q; first | exact h121 q2.1 | (have q3 := q2.2; omega)
               rw [pI_f y1] at c1
               rw [pI_f (fun q => y1 (e2.mp q).1)] at c2
               exact ih (by omega) _ _ _ _ _ _ (by omega) (by omega) (by omega))
        · refine R_iload 126 rfl dX11_worth_124 rfl ?_
          refine R_iload 128 rfl dX11_worth_126 rfl ?_
          refine R_iconst 129 rfl dX11_worth_128 ?_
          refine R_icmp_ge 132 136 rfl rfl dX11_worth_129 (by first | assumption | exact ⟨by omega, by omega⟩) (by first | assumption | exact ⟨by omega, by omega⟩) (fun h129 => ?_) (fun h129 => ?_)
          · exact absurd h129 (by omega)
          refine R_iconst 133 rfl dX11_worth_132 ?_
          refine R_goto 137 rfl dX11_worth_133 ?_
          refine R_icmp_ne 140 177 rfl rfl dX11_worth_137 (by first | assumption | exact ⟨by omega, by omega⟩) (by first | assumption | exact ⟨by omega, by omega⟩) (fun h137 => ?_) (fun h137 => ?_)
          rotate_left
          · exact absurd h137 (by omega)
          refine R_iconst 178 rfl dX11_worth_177 ?_
          refine R_istore [_, _, _, _, _, _, _, _, _, _, _, _, _, _] 180 rfl dX11_worth_178 rfl (by decide) ?_
          refine R_lload 182 rfl dX11_worth_180 rfl ?_
          refine R_iload 184 rfl dX11_worth_182 rfl ?_
          refine R_if_eq 187 191 rfl rfl dX11_worth_184 (by first | assumption | exact ⟨by omega, by omega⟩) (fun h184 => ?_) (fun h184 => ?_)
          rotate_left
          · exact absurd h184 (by omega)
          refine R_lconst 192 rfl dX11_worth_191 ?_
          refine R_topL (b := 0) rfl ?_
          refine R_ladd 193 rfl dX11_worth_192 ?_
          refine R_lstore [_, _, _, _, _, _, _, _, _, _, _, _, _, _] 195 rfl dX11_worth_193 rfl (by decide) ?_
          refine R_lload 197 rfl dX11_worth_195 rfl ?_
          refine R_iload 199 rfl dX11_worth_197 rfl ?_
          refine R_if_eq 202 215 rfl rfl dX11_worth_199 (by first | assumption | exact ⟨by omega, by omega⟩) (fun h199 => ?_) (fun h199 => ?_)
          rotate_left
          · exact absurd h199 (by omega)
          refine R_lconst 216 rfl dX11_worth_215 ?_
          refine R_topL (b := 0) rfl ?_
          refine R_ladd 217 rfl dX11_worth_216 ?_
          refine R_lstore [_, _, _, _, _, _, _, _, _, _, _, _, _, _] 219 rfl dX11_worth_217 rfl (by decide) ?_
          refine R_iinc [_, _, _, _, _, _, _, _, _, _, _, _, _, _] 222 rfl dX11_worth_219 rfl rfl (by decide) ?_
          refine R_goto 65 rfl dX11_worth_222 ?_
          first
            | (have y1 : qtP L B ch kn.toNat yr 3 k = true := e1.mpr ⟨h121, by omega⟩
               rw [pI_t y1] at c1
               first
                 | (rw [pI_t (e2.mpr ⟨y1, h208⟩)] at c2
                    exact ih (by omega) _ _ _ _ _ _ (by omega) (by omega) (by omega))
                 | (rw [pI_f (fun q => h208 (e2.mp q).2)] at c2
                    exact ih (by omega) _ _ _ _ _ _ (by omega) (by omega) (by omega)))
            | (have y1 : ¬ qtP L B ch kn.toNat yr 3 k = true := fun q => by have q2 := e1.mp q; first | exact h121 q2.1 | (have q3 := q2.2; omega)
               rw [pI_f y1] at c1
               rw [pI_f (fun q => y1 (e2.mp q).1)] at c2
               exact ih (by omega) _ _ _ _ _ _ (by omega) (by omega) (by omega))
      · refine R_iload 103 rfl dX11_worth_101 rfl ?_
        refine R_iload_n 104 rfl dX11_worth_103 rfl ?_
        refine R_icmp_gt 107 111 rfl rfl dX11_worth_104 (by first | assumption | exact ⟨by omega, by omega⟩) (by first | assumption | exact ⟨by omega, by omega⟩) (fun h104 => ?_) (fun h104 => ?_)
        · refine R_iconst 112 rfl dX11_worth_111 ?_
          refine R_istore [_, _, _, _, _, _, _, _, _, _, _, _, _, _] 114 rfl dX11_worth_112 rfl (by decide) ?_
          refine R_aload_n 115 rfl dX11_worth_114 rfl ?_
          refine R_iconst 116 rfl dX11_worth_115 ?_
          refine R_iload 118 rfl dX11_worth_116 rfl ?_
          refine R_callV_i (M' := mX11_isIn) 121 rfl dX11_worth_118 ml_X11_240 kmX11_isIn im_X11_isIn se_X11_isIn rfl ⟨by decide, rfl⟩ (c_X11_isIn _ _ 0 k hW rfl (by decide) (by omega) (by omega)) rfl rfl ⟨Nat.le_of_ble_eq_true rfl, Nat.le_of_ble_eq_true rfl⟩ (Nat.le_of_ble_eq_true rfl) ⟨Nat.le_of_ble_eq_true rfl, Nat.le_of_ble_eq_true rfl⟩ ?_
          refine R_ifp_eq 124 177 rfl rfl dX11_worth_121 (fun h121 => ?_) (fun h121 => ?_)
          · refine R_iconst 178 rfl dX11_worth_177 ?_
            refine R_istore [_, _, _, _, _, _, _, _, _, _, _, _, _, _] 180 rfl dX11_worth_178 rfl (by decide) ?_
            refine R_lload 182 rfl dX11_worth_180 rfl ?_
            refine R_iload 184 rfl dX11_worth_182 rfl ?_
            refine R_if_eq 187 191 rfl rfl dX11_worth_184 (by first | assumption | exact ⟨by omega, by omega⟩) (fun h184 => ?_) (fun h184 => ?_)
            rotate_left
            · exact absurd h184 (by omega)
            refine R_lconst 192 rfl dX11_worth_191 ?_
            refine R_topL (b := 0) rfl ?_
            refine R_ladd 193 rfl dX11_worth_192 ?_
            refine R_lstore [_, _, _, _, _, _, _, _, _, _, _, _, _, _] 195 rfl dX11_worth_193 rfl (by decide) ?_
            refine R_lload 197 rfl dX11_worth_195 rfl ?_
            refine R_iload 199 rfl dX11_worth_197 rfl ?_
            refine R_if_eq 202 215 rfl rfl dX11_worth_199 (by first | assumption | exact ⟨by omega, by omega⟩) (fun h199 => ?_) (fun h199 => ?_)
            rotate_left
            · exact absurd h199 (by omega)
            refine R_lconst 216 rfl dX11_worth_215 ?_
            refine R_topL (b := 0) rfl ?_
            refine R_ladd 217 rfl dX11_worth_216 ?_
            refine R_lstore [_, _, _, _, _, _, _, _, _, _, _, _, _, _] 219 rfl dX11_worth_217 rfl (by decide) ?_
            refine R_iinc [_, _, _, _, _, _, _, _, _, _, _, _, _, _] 222 rfl dX11_worth_219 rfl rfl (by decide) ?_
            refine R_goto 65 rfl dX11_worth_222 ?_
            first
              | (have y1 : qtP L B ch kn.toNat yr 3 k = true := e1.mpr ⟨h121, by omega⟩
                 rw [pI_t y1] at c1
                 first
                   | (rw [pI_t (e2.mpr ⟨y1, h208⟩)] at c2
                      exact ih (by omega) _ _ _ _ _ _ (by omega) (by omega) (by omega))
                   | (rw [pI_f (fun q => h208 (e2.mp q).2)] at c2
                      exact ih (by omega) _ _ _ _ _ _ (by omega) (by omega) (by omega)))
              | (have y1 : ¬ qtP L B ch kn.toNat yr 3 k = true := fun q => by have q2 := e1.mp q; first | exact h121 q2.1 | (have q3 := q2.2; omega)
                 rw [pI_f y1] at c1
                 rw [pI_f (fun q => y1 (e2.mp q).1)] at c2
                 exact ih (by omega) _ _ _ _ _ _ (by omega) (by omega) (by omega))
          · refine R_iload 126 rfl dX11_worth_124 rfl ?_
            refine R_iload 128 rfl dX11_worth_126 rfl ?_
            refine R_iconst 129 rfl dX11_worth_128 ?_
            refine R_icmp_ge 132 136 rfl rfl dX11_worth_129 (by first | assumption | exact ⟨by omega, by omega⟩) (by first | assumption | exact ⟨by omega, by omega⟩) (fun h129 => ?_) (fun h129 => ?_)
            · exact absurd h129 (by omega)
            refine R_iconst 133 rfl dX11_worth_132 ?_
            refine R_goto 137 rfl dX11_worth_133 ?_
            refine R_icmp_ne 140 177 rfl rfl dX11_worth_137 (by first | assumption | exact ⟨by omega, by omega⟩) (by first | assumption | exact ⟨by omega, by omega⟩) (fun h137 => ?_) (fun h137 => ?_)
            rotate_left
            · exact absurd h137 (by omega)
            refine R_iconst 178 rfl dX11_worth_177 ?_
            refine R_istore [_, _, _, _, _, _, _, _, _, _, _, _, _, _] 180 rfl dX11_worth_178 rfl (by decide) ?_
            refine R_lload 182 rfl dX11_worth_180 rfl ?_
            refine R_iload 184 rfl dX11_worth_182 rfl ?_
            refine R_if_eq 187 191 rfl rfl dX11_worth_184 (by first | assumption | exact ⟨by omega, by omega⟩) (fun h184 => ?_) (fun h184 => ?_)
            rotate_left
            · exact absurd h184 (by omega)
            refine R_lconst 192 rfl dX11_worth_191 ?_
            refine R_topL (b := 0) rfl ?_
            refine R_ladd 193 rfl dX11_worth_192 ?_
            refine R_lstore [_, _, _, _, _, _, _, _, _, _, _, _, _, _] 195 rfl dX11_worth_193 rfl (by decide) ?_
            refine R_lload 197 rfl dX11_worth_195 rfl ?_
            refine R_iload 199 rfl dX11_worth_197 rfl ?_
            refine R_if_eq 202 215 rfl rfl dX11_worth_199 (by first | assumption | exact ⟨by omega, by omega⟩) (fun h199 => ?_) (fun h199 => ?_)
            rotate_left
            · exact absurd h199 (by omega)
            refine R_lconst 216 rfl dX11_worth_215 ?_
            refine R_topL (b := 0) rfl ?_
            refine R_ladd 217 rfl dX11_worth_216 ?_
            refine R_lstore [_, _, _, _, _, _, _, _, _, _, _, _, _, _] 219 rfl dX11_worth_217 rfl (by decide) ?_
            refine R_iinc [_, _, _, _, _, _, _, _, _, _, _, _, _, _] 222 rfl dX11_worth_219 rfl rfl (by decide) ?_
            refine R_goto 65 rfl dX11_worth_222 ?_
            first
              | (have y1 : qtP L B ch kn.toNat yr 3 k = true := e1.mpr ⟨h121, by omega⟩
                 rw [pI_t y1] at c1
                 first
                   | (rw [pI_t (e2.mpr ⟨y1, h208⟩)] at c2
                      exact ih (by omega) _ _ _ _ _ _ (by omega) (by omega) (by omega))
                   | (rw [pI_f (fun q => h208 (e2.mp q).2)] at c2
                      exact ih (by omega) _ _ _ _ _ _ (by omega) (by omega) (by omega)))
              | (have y1 : ¬ qtP L B ch kn.toNat yr 3 k = true := fun q => by have q2 := e1.mp q; first | exact h121 q2.1 | (have q3 := q2.2; omega)
                 rw [pI_f y1] at c1
                 rw [pI_f (fun q => y1 (e2.mp q).1)] at c2
                 exact ih (by omega) _ _ _ _ _ _ (by omega) (by omega) (by omega))
        · refine R_iconst 108 rfl dX11_worth_107 ?_
          refine R_goto 112 rfl dX11_worth_108 ?_
          refine R_istore [_, _, _, _, _, _, _, _, _, _, _, _, _, _] 114 rfl dX11_worth_112 rfl (by decide) ?_
          refine R_aload_n 115 rfl dX11_worth_114 rfl ?_
          refine R_iconst 116 rfl dX11_worth_115 ?_
          refine R_iload 118 rfl dX11_worth_116 rfl ?_
          refine R_callV_i (M' := mX11_isIn) 121 rfl dX11_worth_118 ml_X11_240 kmX11_isIn im_X11_isIn se_X11_isIn rfl ⟨by decide, rfl⟩ (c_X11_isIn _ _ 0 k hW rfl (by decide) (by omega) (by omega)) rfl rfl ⟨Nat.le_of_ble_eq_true rfl, Nat.le_of_ble_eq_true rfl⟩ (Nat.le_of_ble_eq_true rfl) ⟨Nat.le_of_ble_eq_true rfl, Nat.le_of_ble_eq_true rfl⟩ ?_
          refine R_ifp_eq 124 177 rfl rfl dX11_worth_121 (fun h121 => ?_) (fun h121 => ?_)
          · refine R_iconst 178 rfl dX11_worth_177 ?_
            refine R_istore [_, _, _, _, _, _, _, _, _, _, _, _, _, _] 180 rfl dX11_worth_178 rfl (by decide) ?_
            refine R_lload 182 rfl dX11_worth_180 rfl ?_
            refine R_iload 184 rfl dX11_worth_182 rfl ?_
            refine R_if_eq 187 191 rfl rfl dX11_worth_184 (by first | assumption | exact ⟨by omega, by omega⟩) (fun h184 => ?_) (fun h184 => ?_)
            rotate_left
            · exact absurd h184 (by omega)
            refine R_lconst 192 rfl dX11_worth_191 ?_
            refine R_topL (b := 0) rfl ?_
            refine R_ladd 193 rfl dX11_worth_192 ?_
            refine R_lstore [_, _, _, _, _, _, _, _, _, _, _, _, _, _] 195 rfl dX11_worth_193 rfl (by decide) ?_
            refine R_lload 197 rfl dX11_worth_195 rfl ?_
            refine R_iload 199 rfl dX11_worth_197 rfl ?_
            refine R_if_eq 202 215 rfl rfl dX11_worth_199 (by first | assumption | exact ⟨by omega, by omega⟩) (fun h199 => ?_) (fun h199 => ?_)
            rotate_left
            · exact absurd h199 (by omega)
            refine R_lconst 216 rfl dX11_worth_215 ?_
            refine R_topL (b := 0) rfl ?_
            refine R_ladd 217 rfl dX11_worth_216 ?_
            refine R_lstore [_, _, _, _, _, _, _, _, _, _, _, _, _, _] 219 rfl dX11_worth_217 rfl (by decide) ?_
            refine R_iinc [_, _, _, _, _, _, _, _, _, _, _, _, _, _] 222 rfl dX11_worth_219 rfl rfl (by decide) ?_
            refine R_goto 65 rfl dX11_worth_222 ?_
            first
              | (have y1 : qtP L B ch kn.toNat yr 3 k = true := e1.mpr ⟨h121, by omega⟩
                 rw [pI_t y1] at c1
                 first
                   | (rw [pI_t (e2.mpr ⟨y1, h208⟩)] at c2
                      exact ih (by omega) _ _ _ _ _ _ (by omega) (by omega) (by omega))
                   | (rw [pI_f (fun q => h208 (e2.mp q).2)] at c2
                      exact ih (by omega) _ _ _ _ _ _ (by omega) (by omega) (by omega)))
              | (have y1 : ¬ qtP L B ch kn.toNat yr 3 k = true := fun q => by have q2 := e1.mp q; first | exact h121 q2.1 | (have q3 := q2.2; omega)
                 rw [pI_f y1] at c1
                 rw [pI_f (fun q => y1 (e2.mp q).1)] at c2
                 exact ih (by omega) _ _ _ _ _ _ (by omega) (by omega) (by omega))
          · refine R_iload 126 rfl dX11_worth_124 rfl ?_
            refine R_iload 128 rfl dX11_worth_126 rfl ?_
            refine R_iconst 129 rfl dX11_worth_128 ?_
            refine R_icmp_ge 132 136 rfl rfl dX11_worth_129 (by first | assumption | exact ⟨by omega, by omega⟩) (by first | assumption | exact ⟨by omega, by omega⟩) (fun h129 => ?_) (fun h129 => ?_)
            · exact absurd h129 (by omega)
            refine R_iconst 133 rfl dX11_worth_132 ?_
            refine R_goto 137 rfl dX11_worth_133 ?_
            refine R_icmp_ne 140 177 rfl rfl dX11_worth_137 (by first | assumption | exact ⟨by omega, by omega⟩) (by first | assumption | exact ⟨by omega, by omega⟩) (fun h137 => ?_) (fun h137 => ?_)
            · exact absurd h137 (by omega)
            refine R_aload_n 141 rfl dX11_worth_140 rfl ?_
            refine R_iload 143 rfl dX11_worth_141 rfl ?_
            refine R_iconst 144 rfl dX11_worth_143 ?_
            refine R_idiv_p 145 rfl dX11_worth_144 (by first | assumption | exact ⟨by omega, by omega⟩) (by first | assumption | exact ⟨by omega, by omega⟩) (by omega) (by omega) ?_
            refine R_iconst 146 rfl dX11_worth_145 ?_
            refine R_callV_i (M' := mX11_its) 149 rfl dX11_worth_146 ml_X11_153 kmX11_its im_X11_its se_X11_its rfl ⟨by decide, rfl⟩ (c_X11_its _ _ (k / 2) 1 hZ.1 (by omega) (by omega) (by omega) (by omega)) rfl rfl ⟨Nat.le_of_ble_eq_true rfl, Nat.le_of_ble_eq_true rfl⟩ (Nat.le_of_ble_eq_true rfl) ⟨Nat.le_of_ble_eq_true rfl, Nat.le_of_ble_eq_true rfl⟩ ?_
            refine R_iload_n 150 rfl dX11_worth_149 rfl ?_
            refine R_icmp_lt 153 157 rfl rfl dX11_worth_150 (by first | assumption | exact ⟨by omega, by omega⟩) (by first | assumption | exact ⟨by omega, by omega⟩) (fun h150 => ?_) (fun h150 => ?_)
            · refine R_iconst 158 rfl dX11_worth_157 ?_
              refine R_iload 160 rfl dX11_worth_158 rfl ?_
              refine R_iconst 161 rfl dX11_worth_160 ?_
              refine R_irem_p 162 rfl dX11_worth_161 (by first | assumption | exact ⟨by omega, by omega⟩) (by first | assumption | exact ⟨by omega, by omega⟩) (by omega) (by omega) ?_
              refine R_if_ne 165 169 rfl rfl dX11_worth_162 (by first | assumption | exact ⟨by omega, by omega⟩) (fun h162 => ?_) (fun h162 => ?_)
              · exact absurd h162 (by omega)
              refine R_iconst 166 rfl dX11_worth_165 ?_
              refine R_goto 170 rfl dX11_worth_166 ?_
              refine R_icmp_ne 173 177 rfl rfl dX11_worth_170 (by first | assumption | exact ⟨by omega, by omega⟩) (by first | assumption | exact ⟨by omega, by omega⟩) (fun h170 => ?_) (fun h170 => ?_)
              rotate_left
              · exact absurd h170 (by omega)
              refine R_iconst 178 rfl dX11_worth_177 ?_
              refine R_istore [_, _, _, _, _, _, _, _, _, _, _, _, _, _] 180 rfl dX11_worth_178 rfl (by decide) ?_
              refine R_lload 182 rfl dX11_worth_180 rfl ?_
              refine R_iload 184 rfl dX11_worth_182 rfl ?_
              refine R_if_eq 187 191 rfl rfl dX11_worth_184 (by first | assumption | exact ⟨by omega, by omega⟩) (fun h184 => ?_) (fun h184 => ?_)
              rotate_left
              · exact absurd h184 (by omega)
              refine R_lconst 192 rfl dX11_worth_191 ?_
              refine R_topL (b := 0) rfl ?_
              refine R_ladd 193 rfl dX11_worth_192 ?_
              refine R_lstore [_, _, _, _, _, _, _, _, _, _, _, _, _, _] 195 rfl dX11_worth_193 rfl (by decide) ?_
              refine R_lload 197 rfl dX11_worth_195 rfl ?_
              refine R_iload 199 rfl dX11_worth_197 rfl ?_
              refine R_if_eq 202 215 rfl rfl dX11_worth_199 (by first | assumption | exact ⟨by omega, by omega⟩) (fun h199 => ?_) (fun h199 => ?_)
              rotate_left
              · exact absurd h199 (by omega)
              refine R_lconst 216 rfl dX11_worth_215 ?_
              refine R_topL (b := 0) rfl ?_
              refine R_ladd 217 rfl dX11_worth_216 ?_
              refine R_lstore [_, _, _, _, _, _, _, _, _, _, _, _, _, _] 219 rfl dX11_worth_217 rfl (by decide) ?_
              refine R_iinc [_, _, _, _, _, _, _, _, _, _, _, _, _, _] 222 rfl dX11_worth_219 rfl rfl (by decide) ?_
              refine R_goto 65 rfl dX11_worth_222 ?_
              first
                | (have y1 : qtP L B ch kn.toNat yr 3 k = true := e1.mpr ⟨h121, by omega⟩
                   rw [pI_t y1] at c1
                   first
                     | (rw [pI_t (e2.mpr ⟨y1, h208⟩)] at c2
                        exact ih (by omega) _ _ _ _ _ _ (by omega) (by omega) (by omega))
                     | (rw [pI_f (fun q => h208 (e2.mp q).2)] at c2
                        exact ih (by omega) _ _ _ _ _ _ (by omega) (by omega) (by omega)))
                | (have y1 : ¬ qtP L B ch kn.toNat yr 3 k = true := fun q => by have q2 := e1.mp q; first | exact h121 q2.1 | (have q3 := q2.2; omega)
                   rw [pI_f y1] at c1
                   rw [pI_f (fun q => y1 (e2.mp q).1)] at c2
                   exact ih (by omega) _ _ _ _ _ _ (by omega) (by omega) (by omega))
            · refine R_iconst 154 rfl dX11_worth_153 ?_
              refine R_goto 158 rfl dX11_worth_154 ?_
              refine R_iload 160 rfl dX11_worth_158 rfl ?_
              refine R_iconst 161 rfl dX11_worth_160 ?_
              refine R_irem_p 162 rfl dX11_worth_161 (by first | assumption | exact ⟨by omega, by omega⟩) (by first | assumption | exact ⟨by omega, by omega⟩) (by omega) (by omega) ?_
              refine R_if_ne 165 169 rfl rfl dX11_worth_162 (by first | assumption | exact ⟨by omega, by omega⟩) (fun h162 => ?_) (fun h162 => ?_)
              · exact absurd h162 (by omega)
              refine R_iconst 166 rfl dX11_worth_165 ?_
              refine R_goto 170 rfl dX11_worth_166 ?_
              refine R_icmp_ne 173 177 rfl rfl dX11_worth_170 (by first | assumption | exact ⟨by omega, by omega⟩) (by first | assumption | exact ⟨by omega, by omega⟩) (fun h170 => ?_) (fun h170 => ?_)
              · exact absurd h170 (by omega)
              refine R_iconst 174 rfl dX11_worth_173 ?_
              refine R_goto 178 rfl dX11_worth_174 ?_
              refine R_istore [_, _, _, _, _, _, _, _, _, _, _, _, _, _] 180 rfl dX11_worth_178 rfl (by decide) ?_
              refine R_lload 182 rfl dX11_worth_180 rfl ?_
              refine R_iload 184 rfl dX11_worth_182 rfl ?_
              refine R_if_eq 187 191 rfl rfl dX11_worth_184 (by first | assumption | exact ⟨by omega, by omega⟩) (fun h184 => ?_) (fun h184 => ?_)
              · exact absurd h184 (by omega)
              refine R_lconst 188 rfl dX11_worth_187 ?_
              refine R_topL (b := 1) rfl ?_
              refine R_goto 192 rfl dX11_worth_188 ?_
              refine R_ladd 193 rfl dX11_worth_192 ?_
              refine R_lstore [_, _, _, _, _, _, _, _, _, _, _, _, _, _] 195 rfl dX11_worth_193 rfl (by decide) ?_
              refine R_lload 197 rfl dX11_worth_195 rfl ?_
              refine R_iload 199 rfl dX11_worth_197 rfl ?_
              refine R_if_eq 202 215 rfl rfl dX11_worth_199 (by first | assumption | exact ⟨by omega, by omega⟩) (fun h199 => ?_) (fun h199 => ?_)
              · exact absurd h199 (by omega)
              refine R_aload_n 203 rfl dX11_worth_202 rfl ?_
              refine R_iload 205 rfl dX11_worth_203 rfl ?_
              refine R_callV_i (M' := mX11_isAble) 208 rfl dX11_worth_205 ml_X11_246 kmX11_isAble im_X11_isAble se_X11_isAble rfl ⟨by decide, rfl⟩ (c_X11_isAble _ k hZ (by omega) (by omega)) rfl rfl ⟨Nat.le_of_ble_eq_true rfl, Nat.le_of_ble_eq_true rfl⟩ (Nat.le_of_ble_eq_true rfl) ⟨Nat.le_of_ble_eq_true rfl, Nat.le_of_ble_eq_true rfl⟩ ?_
              refine R_ifp_eq 211 215 rfl rfl dX11_worth_208 (fun h208 => ?_) (fun h208 => ?_)
              · refine R_lconst 216 rfl dX11_worth_215 ?_
                refine R_topL (b := 0) rfl ?_
                refine R_ladd 217 rfl dX11_worth_216 ?_
                refine R_lstore [_, _, _, _, _, _, _, _, _, _, _, _, _, _] 219 rfl dX11_worth_217 rfl (by decide) ?_
                refine R_iinc [_, _, _, _, _, _, _, _, _, _, _, _, _, _] 222 rfl dX11_worth_219 rfl rfl (by decide) ?_
                refine R_goto 65 rfl dX11_worth_222 ?_
                first
                  | (have y1 : qtP L B ch kn.toNat yr 3 k = true := e1.mpr ⟨h121, by omega⟩
                     rw [pI_t y1] at c1
                     first
                       | (rw [pI_t (e2.mpr ⟨y1, h208⟩)] at c2
                          exact ih (by omega) _ _ _ _ _ _ (by omega) (by omega) (by omega))
                       | (rw [pI_f (fun q => h208 (e2.mp q).2)] at c2
                          exact ih (by omega) _ _ _ _ _ _ (by omega) (by omega) (by omega)))
                  | (have y1 : ¬ qtP L B ch kn.toNat yr 3 k = true := fun q => by have q2 := e1.mp q; first | exact h121 q2.1 | (have q3 := q2.2; omega)
                     rw [pI_f y1] at c1
                     rw [pI_f (fun q => y1 (e2.mp q).1)] at c2
                     exact ih (by omega) _ _ _ _ _ _ (by omega) (by omega) (by omega))
              · refine R_lconst 212 rfl dX11_worth_211 ?_
                refine R_topL (b := 1) rfl ?_
                refine R_goto 216 rfl dX11_worth_212 ?_
                refine R_ladd 217 rfl dX11_worth_216 ?_
                refine R_lstore [_, _, _, _, _, _, _, _, _, _, _, _, _, _] 219 rfl dX11_worth_217 rfl (by decide) ?_
                refine R_iinc [_, _, _, _, _, _, _, _, _, _, _, _, _, _] 222 rfl dX11_worth_219 rfl rfl (by decide) ?_
                refine R_goto 65 rfl dX11_worth_222 ?_
                first
                  | (have y1 : qtP L B ch kn.toNat yr 3 k = true := e1.mpr ⟨h121, by omega⟩
                     rw [pI_t y1] at c1
                     first
                       | (rw [pI_t (e2.mpr ⟨y1, h208⟩)] at c2
                          exact ih (by omega) _ _ _ _ _ _ (by omega) (by omega) (by omega))
                       | (rw [pI_f (fun q => h208 (e2.mp q).2)] at c2
                          exact ih (by omega) _ _ _ _ _ _ (by omega) (by omega) (by omega)))
                  | (have y1 : ¬ qtP L B ch kn.toNat yr 3 k = true := fun q => by have q2 := e1.mp q; first | exact h121 q2.1 | (have q3 := q2.2; omega)
                     rw [pI_f y1] at c1
                     rw [pI_f (fun q => y1 (e2.mp q).1)] at c2
                     exact ih (by omega) _ _ _ _ _ _ (by omega) (by omega) (by omega))
  refine R_iload 52 rfl dX11_worth_50 rfl ?_
  refine R_iconst 53 rfl dX11_worth_52 ?_
  refine R_icmp_ge 56 282 rfl rfl dX11_worth_53 (by first | assumption | exact ⟨by omega, by omega⟩) (by first | assumption | exact ⟨by omega, by omega⟩) (fun h53 => ?_) (fun h53 => ?_)
  · exact absurd h53 (by omega)
  refine R_lconst 57 rfl dX11_worth_56 ?_
  refine R_topL (b := 0) rfl ?_
  refine R_lstore [_, _, _, _, _, _, _, _, _, _, _, _, _, _] 59 rfl dX11_worth_57 rfl (by decide) ?_
  refine R_lconst 60 rfl dX11_worth_59 ?_
  refine R_topL (b := 0) rfl ?_
  refine R_lstore [_, _, _, _, _, _, _, _, _, _, _, _, _, _] 62 rfl dX11_worth_60 rfl (by decide) ?_
  refine R_iconst 63 rfl dX11_worth_62 ?_
  refine R_istore [_, _, _, _, _, _, _, _, _, _, _, _, _, _] 65 rfl dX11_worth_63 rfl (by decide) ?_
  exact Li 0 (by omega) _ _ _ _ _ _ rfl rfl rfl
end
