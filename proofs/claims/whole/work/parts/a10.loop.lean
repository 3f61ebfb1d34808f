/-! the law's loop, and its walk -/
theorem lw_loop {Γ : GX} (hΓ : GOk Γ) (hN3 : gN Γ ≤ 3584) : ∀ (f i : Nat) (zi : Int), zi = (i : Int) → i ≤ gN Γ → gN Γ ≤ i + f → ∀ L B ch T F I S N m, IC L B ch T F I S N m → IR L B ch T F I S N m → R Γ mL room_1 113 5922 QW 113 5922 18 [some (vr 2000000), some (vr 0), some (vr 96), some (vi zi)] [] SH m := by
  intro f
  induction f with
  | zero =>
    intro i zi hz h1 h2 L B ch T F I S N m hC hR
    refine R_iload_n 19 rfl dL_law_18 rfl ?_
    refine R_aload_n 20 rfl dL_law_19 rfl ?_
    refine R_slen 21 rfl dL_law_20 hN3 ?_
    refine R_bipush 23 rfl dL_law_21 (by decide) ?_
    refine R_isub 24 rfl dL_law_23 ?_
    refine R_icmp_gt 27 1686 rfl rfl dL_law_24 (by first | assumption | exact ⟨by omega, by omega⟩) (by first | assumption | exact ⟨by omega, by omega⟩) (fun h24 => ?_) (fun h24 => ?_)
    · refine R_iconst 1687 rfl dL_law_1686 ?_
      refine R_zreturn dL_law_1687 rfl (by first | decide | exact pI_01 _) ?_
      exact (rfl : some (vi 1) = some (vi 1))
    · exfalso; omega
  | succ f ih =>
    intro i zi hz h1 h2 L B ch T F I S N m hC hR
    have nx : i + 7 ≤ gN Γ → NX Γ zi := by
      intro hl L B ch T F I S N m hC hR
      refine R_iinc [_, _, _, _] 1683 rfl dL_law_1680 rfl rfl (by decide) ?_
      refine R_goto 18 rfl dL_law_1683 ?_
      exact ih (i + 7) _ (by omega) (by omega) (by omega) _ _ _ _ _ _ _ _ _ hC hR
    refine R_iload_n 19 rfl dL_law_18 rfl ?_
    refine R_aload_n 20 rfl dL_law_19 rfl ?_
    refine R_slen 21 rfl dL_law_20 hN3 ?_
    refine R_bipush 23 rfl dL_law_21 (by decide) ?_
    refine R_isub 24 rfl dL_law_23 ?_
    refine R_icmp_gt 27 1686 rfl rfl dL_law_24 (by first | assumption | exact ⟨by omega, by omega⟩) (by first | assumption | exact ⟨by omega, by omega⟩) (fun h24 => ?_) (fun h24 => ?_)
    · refine R_iconst 1687 rfl dL_law_1686 ?_
      refine R_zreturn dL_law_1687 rfl (by first | decide | exact pI_01 _) ?_
      exact (rfl : some (vi 1) = some (vi 1))
    · refine R_aload_n 28 rfl dL_law_27 rfl ?_
      refine R_iload_n 29 rfl dL_law_28 rfl ?_
      refine R_sld (i + 0) 30 rfl dL_law_29 (by omega) (by omega) hN3 ?_
      refine R_bipush 32 rfl dL_law_30 (by decide) ?_
      refine R_top (b := 2 ^ 6 - 1) (by decide) ?_
      refine R_iandm 6 33 rfl dL_law_32 (by decide) ?_
      refine R_top (b := sc Γ (i + 0) % 64) rfl ?_
      rcases (show (sc Γ (i + 0) % 64) < 0 ∨ 40 < (sc Γ (i + 0) % 64) ∨ (sc Γ (i + 0) % 64) = 0 ∨ (sc Γ (i + 0) % 64) = 1 ∨ (sc Γ (i + 0) % 64) = 2 ∨ (sc Γ (i + 0) % 64) = 3 ∨ (sc Γ (i + 0) % 64) = 4 ∨ (sc Γ (i + 0) % 64) = 5 ∨ (sc Γ (i + 0) % 64) = 6 ∨ (sc Γ (i + 0) % 64) = 7 ∨ (sc Γ (i + 0) % 64) = 8 ∨ (sc Γ (i + 0) % 64) = 9 ∨ (sc Γ (i + 0) % 64) = 10 ∨ (sc Γ (i + 0) % 64) = 11 ∨ (sc Γ (i + 0) % 64) = 12 ∨ (sc Γ (i + 0) % 64) = 13 ∨ (sc Γ (i + 0) % 64) = 14 ∨ (sc Γ (i + 0) % 64) = 15 ∨ (sc Γ (i + 0) % 64) = 16 ∨ (sc Γ (i + 0) % 64) = 17 ∨ (sc Γ (i + 0) % 64) = 18 ∨ (sc Γ (i + 0) % 64) = 19 ∨ (sc Γ (i + 0) % 64) = 20 ∨ (sc Γ (i + 0) % 64) = 21 ∨ (sc Γ (i + 0) % 64) = 22 ∨ (sc Γ (i + 0) % 64) = 23 ∨ (sc Γ (i + 0) % 64) = 24 ∨ (sc Γ (i + 0) % 64) = 25 ∨ (sc Γ (i + 0) % 64) = 26 ∨ (sc Γ (i + 0) % 64) = 27 ∨ (sc Γ (i + 0) % 64) = 28 ∨ (sc Γ (i + 0) % 64) = 29 ∨ (sc Γ (i + 0) % 64) = 30 ∨ (sc Γ (i + 0) % 64) = 31 ∨ (sc Γ (i + 0) % 64) = 32 ∨ (sc Γ (i + 0) % 64) = 33 ∨ (sc Γ (i + 0) % 64) = 34 ∨ (sc Γ (i + 0) % 64) = 35 ∨ (sc Γ (i + 0) % 64) = 36 ∨ (sc Γ (i + 0) % 64) = 37 ∨ (sc Γ (i + 0) % 64) = 38 ∨ (sc Γ (i + 0) % 64) = 39 ∨ (sc Γ (i + 0) % 64) = 40 by omega) with h33 | h33 | h33 | h33 | h33 | h33 | h33 | h33 | h33 | h33 | h33 | h33 | h33 | h33 | h33 | h33 | h33 | h33 | h33 | h33 | h33 | h33 | h33 | h33 | h33 | h33 | h33 | h33 | h33 | h33 | h33 | h33 | h33 | h33 | h33 | h33 | h33 | h33 | h33 | h33 | h33 | h33 | h33
      · refine R_tsOut 1680 dL_law_33 (by first | assumption | exact ⟨by omega, by omega⟩) (by omega) rfl ?_
        exact nx (by omega) _ _ _ _ _ _ _ _ _ hC hR
      · refine R_tsOut 1680 dL_law_33 (by first | assumption | exact ⟨by omega, by omega⟩) (by omega) rfl ?_
        exact nx (by omega) _ _ _ _ _ _ _ _ _ hC hR
      · refine R_top (b := 0) h33 ?_
        refine R_tsIn 212 dL_law_33 ⟨by omega, by omega⟩ (by omega) (by omega) rfl rfl ?_
        exact lw_feed hΓ i zi hz (by omega) hN3 hC hR (nx (by omega))
      · refine R_top (b := 1) h33 ?_
        refine R_tsIn 265 dL_law_33 ⟨by omega, by omega⟩ (by omega) (by omega) rfl rfl ?_
        exact lw_end hΓ i zi hz (by omega) hN3 hC hR (nx (by omega))
      · refine R_top (b := 2) h33 ?_
        refine R_tsIn 288 dL_law_33 ⟨by omega, by omega⟩ (by omega) (by omega) rfl rfl ?_
        exact lw_land hΓ i zi hz (by omega) hN3 hC hR (nx (by omega))
      · refine R_top (b := 3) h33 ?_
        refine R_tsIn 301 dL_law_33 ⟨by omega, by omega⟩ (by omega) (by omega) rfl rfl ?_
        exact lw_fault hΓ i zi hz (by omega) hN3 hC hR (nx (by omega))
      · refine R_top (b := 4) h33 ?_
        refine R_tsIn 314 dL_law_33 ⟨by omega, by omega⟩ (by omega) (by omega) rfl rfl ?_
        exact lw_told hΓ i zi hz (by omega) hN3 hC hR (nx (by omega))
      · refine R_top (b := 5) h33 ?_
        refine R_tsIn 337 dL_law_33 ⟨by omega, by omega⟩ (by omega) (by omega) rfl rfl ?_
        exact lw_parish hΓ i zi hz (by omega) hN3 hC hR (nx (by omega))
      · refine R_top (b := 6) h33 ?_
        refine R_tsIn 370 dL_law_33 ⟨by omega, by omega⟩ (by omega) (by omega) rfl rfl ?_
        exact lw_clerk hΓ i zi hz (by omega) hN3 hC hR (nx (by omega))
      · refine R_top (b := 7) h33 ?_
        refine R_tsIn 403 dL_law_33 ⟨by omega, by omega⟩ (by omega) (by omega) rfl rfl ?_
        exact lw_marry hΓ i zi hz (by omega) hN3 hC hR (nx (by omega))
      · refine R_top (b := 8) h33 ?_
        refine R_tsIn 466 dL_law_33 ⟨by omega, by omega⟩ (by omega) (by omega) rfl rfl ?_
        exact lw_set hΓ i zi hz (by omega) hN3 hC hR (nx (by omega))
      · refine R_top (b := 9) h33 ?_
        refine R_tsIn 519 dL_law_33 ⟨by omega, by omega⟩ (by omega) (by omega) rfl rfl ?_
        exact lw_of hΓ i zi hz (by omega) hN3 hC hR (nx (by omega))
      · refine R_top (b := 10) h33 ?_
        refine R_tsIn 552 dL_law_33 ⟨by omega, by omega⟩ (by omega) (by omega) rfl rfl ?_
        exact lw_has hΓ i zi hz (by omega) hN3 hC hR (nx (by omega))
      · refine R_top (b := 11) h33 ?_
        refine R_tsIn 595 dL_law_33 ⟨by omega, by omega⟩ (by omega) (by omega) rfl rfl ?_
        exact lw_kind hΓ i zi hz (by omega) hN3 hC hR (nx (by omega))
      · refine R_top (b := 12) h33 ?_
        refine R_tsIn 628 dL_law_33 ⟨by omega, by omega⟩ (by omega) (by omega) rfl rfl ?_
        exact lw_writer hΓ i zi hz (by omega) hN3 hC hR (nx (by omega))
      · refine R_top (b := 13) h33 ?_
        refine R_tsIn 661 dL_law_33 ⟨by omega, by omega⟩ (by omega) (by omega) rfl rfl ?_
        exact lw_apart hΓ i zi hz (by omega) hN3 hC hR (nx (by omega))
      · refine R_top (b := 14) h33 ?_
        refine R_tsIn 694 dL_law_33 ⟨by omega, by omega⟩ (by omega) (by omega) rfl rfl ?_
        exact lw_tear hΓ i zi hz (by omega) hN3 hC hR (nx (by omega))
      · refine R_top (b := 15) h33 ?_
        refine R_tsIn 717 dL_law_33 ⟨by omega, by omega⟩ (by omega) (by omega) rfl rfl ?_
        exact lw_choose hΓ i zi hz (by omega) hN3 hC hR (nx (by omega))
      · refine R_top (b := 16) h33 ?_
        refine R_tsIn 792 dL_law_33 ⟨by omega, by omega⟩ (by omega) (by omega) rfl rfl ?_
        exact lw_many hΓ i zi hz (by omega) hN3 hC hR (nx (by omega))
      · refine R_top (b := 17) h33 ?_
        refine R_tsIn 825 dL_law_33 ⟨by omega, by omega⟩ (by omega) (by omega) rfl rfl ?_
        exact lw_share hΓ i zi hz (by omega) hN3 hC hR (nx (by omega))
      · refine R_top (b := 18) h33 ?_
        refine R_tsIn 858 dL_law_33 ⟨by omega, by omega⟩ (by omega) (by omega) rfl rfl ?_
        exact lw_best hΓ i zi hz (by omega) hN3 hC hR (nx (by omega))
      · refine R_top (b := 19) h33 ?_
        refine R_tsIn 911 dL_law_33 ⟨by omega, by omega⟩ (by omega) (by omega) rfl rfl ?_
        exact lw_pairs hΓ i zi hz (by omega) hN3 hC hR (nx (by omega))
      · refine R_top (b := 20) h33 ?_
        refine R_tsIn 944 dL_law_33 ⟨by omega, by omega⟩ (by omega) (by omega) rfl rfl ?_
        exact lw_spared hΓ i zi hz (by omega) hN3 hC hR (nx (by omega))
      · refine R_top (b := 21) h33 ?_
        refine R_tsIn 977 dL_law_33 ⟨by omega, by omega⟩ (by omega) (by omega) rfl rfl ?_
        exact lw_learnt hΓ i zi hz (by omega) hN3 hC hR (nx (by omega))
      · refine R_top (b := 22) h33 ?_
        refine R_tsIn 1030 dL_law_33 ⟨by omega, by omega⟩ (by omega) (by omega) rfl rfl ?_
        exact lw_bounds hΓ i zi hz (by omega) hN3 hC hR (nx (by omega))
      · refine R_top (b := 23) h33 ?_
        refine R_tsIn 1083 dL_law_33 ⟨by omega, by omega⟩ (by omega) (by omega) rfl rfl ?_
        exact lw_tens hΓ i zi hz (by omega) hN3 hC hR (nx (by omega))
      · refine R_top (b := 24) h33 ?_
        refine R_tsIn 1116 dL_law_33 ⟨by omega, by omega⟩ (by omega) (by omega) rfl rfl ?_
        exact lw_span hΓ i zi hz (by omega) hN3 hC hR (nx (by omega))
      · refine R_top (b := 25) h33 ?_
        refine R_tsIn 1150 dL_law_33 ⟨by omega, by omega⟩ (by omega) (by omega) rfl rfl ?_
        exact lw_next hΓ i zi hz (by omega) hN3 hC hR (nx (by omega))
      · refine R_top (b := 26) h33 ?_
        refine R_tsIn 1173 dL_law_33 ⟨by omega, by omega⟩ (by omega) (by omega) rfl rfl ?_
        exact lw_enough hΓ i zi hz (by omega) hN3 hC hR (nx (by omega))
      · refine R_top (b := 27) h33 ?_
        refine R_tsIn 1216 dL_law_33 ⟨by omega, by omega⟩ (by omega) (by omega) rfl rfl ?_
        exact lw_reading hΓ i zi hz (by omega) hN3 hC hR (nx (by omega))
      · refine R_top (b := 28) h33 ?_
        refine R_tsIn 1250 dL_law_33 ⟨by omega, by omega⟩ (by omega) (by omega) rfl rfl ?_
        exact lw_unwed hΓ i zi hz (by omega) hN3 hC hR (nx (by omega))
      · refine R_top (b := 29) h33 ?_
        refine R_tsIn 1283 dL_law_33 ⟨by omega, by omega⟩ (by omega) (by omega) rfl rfl ?_
        exact lw_parts hΓ i zi hz (by omega) hN3 hC hR (nx (by omega))
      · refine R_top (b := 30) h33 ?_
        refine R_tsIn 1317 dL_law_33 ⟨by omega, by omega⟩ (by omega) (by omega) rfl rfl ?_
        exact lw_worth hΓ i zi hz (by omega) hN3 hC hR (nx (by omega))
      · refine R_top (b := 31) h33 ?_
        refine R_tsIn 1360 dL_law_33 ⟨by omega, by omega⟩ (by omega) (by omega) rfl rfl ?_
        exact lw_person hΓ i zi hz (by omega) hN3 hC hR (nx (by omega))
      · refine R_top (b := 32) h33 ?_
        refine R_tsIn 1393 dL_law_33 ⟨by omega, by omega⟩ (by omega) (by omega) rfl rfl ?_
        exact lw_twice hΓ i zi hz (by omega) hN3 hC hR (nx (by omega))
      · refine R_top (b := 33) h33 ?_
        refine R_tsIn 1416 dL_law_33 ⟨by omega, by omega⟩ (by omega) (by omega) rfl rfl ?_
        exact lw_find hΓ i zi hz (by omega) hN3 hC hR (nx (by omega))
      · refine R_top (b := 34) h33 ?_
        refine R_tsIn 1459 dL_law_33 ⟨by omega, by omega⟩ (by omega) (by omega) rfl rfl ?_
        exact lw_keep hΓ i zi hz (by omega) hN3 hC hR (nx (by omega))
      · refine R_top (b := 35) h33 ?_
        refine R_tsIn 1482 dL_law_33 ⟨by omega, by omega⟩ (by omega) (by omega) rfl rfl ?_
        exact lw_back hΓ i zi hz (by omega) hN3 hC hR (nx (by omega))
      · refine R_top (b := 36) h33 ?_
        refine R_tsIn 1505 dL_law_33 ⟨by omega, by omega⟩ (by omega) (by omega) rfl rfl ?_
        exact lw_sheet hΓ i zi hz (by omega) hN3 hC hR (nx (by omega))
      · refine R_top (b := 37) h33 ?_
        refine R_tsIn 1548 dL_law_33 ⟨by omega, by omega⟩ (by omega) (by omega) rfl rfl ?_
        exact lw_lay hΓ i zi hz (by omega) hN3 hC hR (nx (by omega))
      · refine R_top (b := 38) h33 ?_
        refine R_tsIn 1591 dL_law_33 ⟨by omega, by omega⟩ (by omega) (by omega) rfl rfl ?_
        exact lw_read hΓ i zi hz (by omega) hN3 hC hR (nx (by omega))
      · refine R_top (b := 39) h33 ?_
        refine R_tsIn 1644 dL_law_33 ⟨by omega, by omega⟩ (by omega) (by omega) rfl rfl ?_
        exact lw_torn hΓ i zi hz (by omega) hN3 hC hR (nx (by omega))
      · refine R_top (b := 40) h33 ?_
        refine R_tsIn 1657 dL_law_33 ⟨by omega, by omega⟩ (by omega) (by omega) rfl rfl ?_
        exact lw_count hΓ i zi hz (by omega) hN3 hC hR (nx (by omega))
theorem lw_R {Γ : GX} (hΓ : GOk Γ) (hN3 : gN Γ ≤ 3584) (m : Mem) : R Γ mL room_1 113 5922 QW 0 0 0 [some (vr 2000000), none, none, none] [] (0, shF) m := by
  refine R_new 10 3 1 1 16 rfl dL_law_0 (by decide) rfl rfl (by decide) rfl rfl cl_L_7 inst_X10 ini_X10 ⟨Nat.le_of_ble_eq_true rfl, Nat.le_of_ble_eq_true rfl⟩ ?_
  refine R_dup 4 rfl dL_law_3 rfl ?_
  refine R_callI_V (M' := mX10_init) 7 96 2975 rfl dL_law_4 ml_L_9 kmX10_init im_X10_init rfl rfl (by decide) (k_X10_init) rfl rfl ⟨Nat.le_of_ble_eq_true rfl, Nat.le_of_ble_eq_true rfl⟩ rfl rfl ⟨Nat.le_of_ble_eq_true rfl, Nat.le_of_ble_eq_true rfl⟩ (Nat.le_of_ble_eq_true rfl) ?_
  rintro m4 h4
  refine R_astore_n [_, _, _, _] 8 rfl dL_law_7 rfl (by decide) ?_
  refine R_new 11 11 97 97 3010 rfl dL_law_8 (by decide) rfl rfl (by decide) rfl rfl cl_L_10 inst_X11 ini_X11 ⟨Nat.le_of_ble_eq_true rfl, Nat.le_of_ble_eq_true rfl⟩ ?_
  refine R_dup 12 rfl dL_law_11 rfl ?_
  refine R_callI_V (M' := mX11_init) 15 113 5922 rfl dL_law_12 ml_L_12 kmX11_init im_X11_init rfl rfl (by decide) (k_X11_init (m := newM m4 96) (fun k => by simp [newM])) rfl rfl ⟨Nat.le_of_ble_eq_true rfl, Nat.le_of_ble_eq_true rfl⟩ rfl rfl ⟨Nat.le_of_ble_eq_true rfl, Nat.le_of_ble_eq_true rfl⟩ (Nat.le_of_ble_eq_true rfl) ?_
  rintro m12 h12
  refine R_astore_n [_, _, _, _] 16 rfl dL_law_15 rfl (by decide) ?_
  refine R_iconst 17 rfl dL_law_16 ?_
  refine R_istore_n [_, _, _, _] 18 rfl dL_law_17 rfl (by decide) ?_
  obtain ⟨f12, k12⟩ := h12
  have fz : Fz m4 m12 := Fz.tr (Fz.nm Fz.rf (by decide)) f12
  exact lw_loop hΓ hN3 (gN Γ) 0 _ rfl (Nat.zero_le _) (by omega) _ _ _ _ _ _ _ _ _ (init_IC h4 fz k12) (init_IR h4 fz k12)
