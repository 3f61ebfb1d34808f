theorem rd_B {s : Sht} {l f n : Int} (hn : ¬ n = 0) (h : s.1 < 0) : rdW s l f n = 0 ∧ rdT s l f n = 1 := by
  have e0 : rdT0 s l n = 1 := by unfold rdT0 shFa; rw [if_neg hn, if_pos h]
  have e1 : rdW s l f n = 0 := if_pos (Or.inr (by omega))
  exact ⟨e1, by unfold rdT; rw [if_neg (by omega)]; exact e0⟩
theorem rd_C {s : Sht} {l f n : Int} (hn : ¬ n = 0) (h : ¬ s.1 < 0) (hl : ¬ l = s.2.1) : rdW s l f n = 0 ∧ rdT s l f n = 3 := by
  have e0 : rdT0 s l n = 3 := by unfold rdT0 shFa; rw [if_neg hn, if_neg h, if_neg hl]
  have e1 : rdW s l f n = 0 := if_pos (Or.inr (by omega))
  exact ⟨e1, by unfold rdT; rw [if_neg (by omega)]; exact e0⟩
theorem rd_0 {s : Sht} {l f n : Int} (hn : n = 0) : rdW s l f n = 0 ∧ rdT s l f n = 0 := by
  have e0 : rdT0 s l n = 0 := if_pos hn
  have e1 : rdW s l f n = 0 := if_pos (Or.inl hn)
  exact ⟨e1, by unfold rdT; rw [if_neg (by omega)]; exact e0⟩
theorem rd_D {s : Sht} {l f n : Int} (hn : 1 ≤ n) (h : ¬ s.1 < 0) (hl : l = s.2.1) : (∀ i : Nat, (i : Int) < 5 * n → 0 ≤ f → f + i < s.1 → i % 5 = 4 → i / 5 < (rdW s l f n).toNat) ∧ (∀ i : Nat, (i : Int) = 5 * n → 0 ≤ f → f + i ≤ s.1 → rdW s l f n = ((i / 5 : Nat) : Int) ∧ rdT s l f n = 0) ∧ (∀ i : Nat, (i : Int) < 5 * n → ¬ (0 ≤ f + i ∧ f + i ≤ s.1 - 1) → (0 < i → 0 ≤ f ∧ f + i ≤ s.1) → rdW s l f n = ((i / 5 : Nat) : Int) ∧ rdT s l f n = 2) := by
  have e0 : rdT0 s l n = 0 := by unfold rdT0 shFa; rw [if_neg (by omega), if_neg h, if_pos hl]
  have e1 : rdW s l f n = shWh s f n := if_neg (by omega)
  have e2 : (rdW s l f n < n → rdT s l f n = 2) ∧ (¬ rdW s l f n < n → rdT s l f n = 0) := ⟨fun q => if_pos ⟨e0, q⟩, fun q => by unfold rdT; rw [if_neg (fun w => q w.2)]; exact e0⟩
  rw [e1] at e2 ⊢
  have ew : (0 ≤ f ∧ f ≤ s.1 → shWh s f n = min n ((s.1 - f) / 5)) ∧ (¬ (0 ≤ f ∧ f ≤ s.1) → shWh s f n = 0) := ⟨fun q => if_pos q, fun q => if_neg q⟩
  refine ⟨fun i h1 h2 h3 h4 => ?_, fun i h1 h2 h3 => ?_, fun i h1 h2 h3 => ?_⟩
  · have := ew.1 (by omega); omega
  · have := ew.1 (by omega)
    have a : shWh s f n = ((i / 5 : Nat) : Int) := by omega
    exact ⟨a, e2.2 (by omega)⟩
  · by_cases q : 0 ≤ f ∧ f ≤ s.1
    · have := ew.1 q
      have a : shWh s f n = ((i / 5 : Nat) : Int) := by omega
      exact ⟨a, e2.1 (by omega)⟩
    · have := ew.2 q
      have a : shWh s f n = ((i / 5 : Nat) : Int) := by omega
      exact ⟨a, e2.1 (by omega)⟩
section
variable {Γ : GX} {m m' m'' : Mem} {B B' : Bk} {L : Ld} {ch ch' : Cs} {T : Tp} {F N : Int} {I : Nat → Im} {S : Nat → Sht}
set_option maxHeartbeats 1000000 in
theorem c_X11_read (k l f n : Int) (hR : RS L B ch m) (hX : RX T F I S N m) (hk : rg k) (hl : rg l) (hf : rg f) (hn : rg n) : C Γ mX11_read 3 120 0 0 [vr 96, vi k, vi l, vi f, vi n] SH m (QR L (if rdGo L B S k l f n = true then addN B (S k.toNat) f (rdW (S k.toNat) l f n).toNat else B) ch T F I S (if rdGo L B S k l f n = true then rdT (S k.toNat) l f n else N) m (a_read L B S k l f n)) := by
  refine C_of_R rfl (Nat.le_of_ble_eq_true rfl) ?_
  have hB1 := hR.2.2.2.2.1.1
  have hf1 := hf.1
  have hf2 := hf.2
  rcases Classical.em ((0 ≤ k ∧ k ≤ 3) ∧ (0 ≤ l ∧ l ≤ 2) ∧ (0 ≤ n ∧ n ≤ 12)) with hok | hok
  · have kd := rdOk_iff.mpr hok
    obtain ⟨g0, g1, g2⟩ := hX.2.2.2.2.1 k.toNat (by omega)
    have so := hX.1.2.2.2.1 k.toNat (by omega)
    have s1 := so.1
    have gl : ((S k.toNat).1 < 0 → m.1 110 k.toNat = -4) ∧ (¬ (S k.toNat).1 < 0 → m.1 110 k.toNat = (S k.toNat).2.1) := ⟨fun q => by rw [g0, if_pos q], fun q => by rw [g0, if_neg q]⟩
    have hW := rdW_rg (l := l) (f := f) so hok.2.2
    have tr : 0 ≤ rdT (S k.toNat) l f n ∧ rdT (S k.toNat) l f n ≤ 3 := by unfold rdT rdT0 shFa; split <;> (try split) <;> (try split) <;> (try split) <;> omega
    have La : rfs L B (S k.toNat) f 0 (rdW (S k.toNat) l f n).toNat = 0 → ∀ j, j ≤ (rdW (S k.toNat) l f n).toNat → ∀ by' ca z x m1, by' = rdT (S k.toNat) l f n → ca = rdW (S k.toNat) l f n → z = (j : Int) → Fb m m1 → RB 0 m1 (addN B (S k.toNat) f j) → R Γ mX11_read { frames := 3, cells := 0, slots := 0, locals := 120 } 0 0 (QR L (if rdGo L B S k l f n = true then addN B (S k.toNat) f (rdW (S k.toNat) l f n).toNat else B) ch T F I S (if rdGo L B S k l f n = true then rdT (S k.toNat) l f n else N) m (a_read L B S k l f n)) 0 0 229 [some (vr 96), some (vi k), some (vi l), some (vi f), some (vi n), some (vi by'), some (vi ca), some (vi z), x] [] SH m1 := by
      intro h0
      clear gl
      refine up_ind (rdW (S k.toNat) l f n).toNat (fun j hj ih by' ca z x m1 hby hca hz hfb hrb => ?_)
      have hBk := addN_ok hR.2.2.2.2.1 h0 j hj
      have hR1 := hR.bk hfb hrb hBk
      have hP := hR1.1
      have an := addN_n (B := B) (s := S k.toNat) (f := f) j
      refine R_iload 231 rfl dX11_read_229 rfl ?_
      refine R_iload 233 rfl dX11_read_231 rfl ?_
      refine R_icmp_ge 236 302 rfl rfl dX11_read_233 (by first | assumption | exact ⟨by omega, by omega⟩) (by first | assumption | exact ⟨by omega, by omega⟩) (fun h233 => ?_) (fun h233 => ?_)
      · refine R_aload_n 303 rfl dX11_read_302 rfl ?_
        refine R_iload 305 rfl dX11_read_303 rfl ?_
        refine R_putI 34 308 rfl dX11_read_305 rfl rfl fl_X11_330 ?_
        refine R_iload 310 rfl dX11_read_308 rfl ?_
        refine R_ireturn dX11_read_310 rfl ?_
        have ej : j = (rdW (S k.toNat) l f n).toNat := by omega
        have hRR : rdR L B (S k.toNat) l f n = 0 := h0
        have hc : rdGo L B S k l f n = true := by unfold rdGo; rw [kd, hRR]; rfl
        rw [if_pos hc, if_pos hc]
        rw [ej] at hR1
        rw [hby]
        have x1 := (hX.fb hfb).tn tr
        exact QI_mk ⟨by unfold a_read; rw [if_pos kd, if_pos hRR]; exact hca, ⟨fun a i q => by simp only [setI]; rw [if_neg (by omega)]; exact hfb.1 a i (by omega), hfb.2⟩, hR1.h3 (fun a i q1 q2 => by simp only [setI]; rw [if_neg (by omega)]) rfl, x1⟩
      · have ro := rfs_ok _ 0 h0 j (by omega) (by omega)
        have q0 : m1.1 112 (60 * k.toNat + ((f + 5 * (j : Int)).toNat + 0)) = cel (S k.toNat) f j 0 := (hfb.1 112 _ (by omega)).trans (g2 _ (by omega))
        have q1 : m1.1 112 (60 * k.toNat + ((f + 5 * (j : Int)).toNat + 1)) = cel (S k.toNat) f j 1 := (hfb.1 112 _ (by omega)).trans (g2 _ (by omega))
        have q2 : m1.1 112 (60 * k.toNat + ((f + 5 * (j : Int)).toNat + 2)) = cel (S k.toNat) f j 2 := (hfb.1 112 _ (by omega)).trans (g2 _ (by omega))
        have q3 : m1.1 112 (60 * k.toNat + ((f + 5 * (j : Int)).toNat + 3)) = cel (S k.toNat) f j 3 := (hfb.1 112 _ (by omega)).trans (g2 _ (by omega))
        have q4 : m1.1 112 (60 * k.toNat + ((f + 5 * (j : Int)).toNat + 4)) = cel (S k.toNat) f j 4 := (hfb.1 112 _ (by omega)).trans (g2 _ (by omega))
        refine R_bipush 238 rfl dX11_read_236 (by decide) ?_
        refine R_iload_n 239 rfl dX11_read_238 rfl ?_
        refine R_imul 240 rfl dX11_read_239 ?_
        refine R_iload_n 241 rfl dX11_read_240 rfl ?_
        refine R_iadd 242 rfl dX11_read_241 ?_
        refine R_iconst 243 rfl dX11_read_242 ?_
        refine R_iload 245 rfl dX11_read_243 rfl ?_
        refine R_imul 246 rfl dX11_read_245 ?_
        refine R_iadd 247 rfl dX11_read_246 ?_
        refine R_istore [_, _, _, _, _, _, _, _, _] 249 rfl dX11_read_247 rfl (by decide) ?_
        refine R_aload_n 250 rfl dX11_read_249 rfl ?_
        refine R_aload_n 251 rfl dX11_read_250 rfl ?_
        refine R_getP 33 254 rfl dX11_read_251 rfl rfl fl_X11_56 (hP _ _ _ rfl) ?_
        refine R_iload 256 rfl dX11_read_254 rfl ?_
        refine R_iald (60 * k.toNat + ((f + 5 * (j : Int)).toNat + 0)) 257 rfl dX11_read_256 rfl (by first | rfl | omega) (by omega) (by decide) ?_
        refine R_aload_n 258 rfl dX11_read_257 rfl ?_
        refine R_getP 33 261 rfl dX11_read_258 rfl rfl fl_X11_56 (hP _ _ _ rfl) ?_
        refine R_iload 263 rfl dX11_read_261 rfl ?_
        refine R_iconst 264 rfl dX11_read_263 ?_
        refine R_iadd 265 rfl dX11_read_264 ?_
        refine R_iald (60 * k.toNat + ((f + 5 * (j : Int)).toNat + 1)) 266 rfl dX11_read_265 rfl (by first | rfl | omega) (by omega) (by decide) ?_
        refine R_aload_n 267 rfl dX11_read_266 rfl ?_
        refine R_getP 33 270 rfl dX11_read_267 rfl rfl fl_X11_56 (hP _ _ _ rfl) ?_
        refine R_iload 272 rfl dX11_read_270 rfl ?_
        refine R_iconst 273 rfl dX11_read_272 ?_
        refine R_iadd 274 rfl dX11_read_273 ?_
        refine R_iald (60 * k.toNat + ((f + 5 * (j : Int)).toNat + 2)) 275 rfl dX11_read_274 rfl (by first | rfl | omega) (by omega) (by decide) ?_
        refine R_aload_n 276 rfl dX11_read_275 rfl ?_
        refine R_getP 33 279 rfl dX11_read_276 rfl rfl fl_X11_56 (hP _ _ _ rfl) ?_
        refine R_iload 281 rfl dX11_read_279 rfl ?_
        refine R_iconst 282 rfl dX11_read_281 ?_
        refine R_iadd 283 rfl dX11_read_282 ?_
        refine R_iald (60 * k.toNat + ((f + 5 * (j : Int)).toNat + 3)) 284 rfl dX11_read_283 rfl (by first | rfl | omega) (by omega) (by decide) ?_
        refine R_aload_n 285 rfl dX11_read_284 rfl ?_
        refine R_getP 33 288 rfl dX11_read_285 rfl rfl fl_X11_56 (hP _ _ _ rfl) ?_
        refine R_iload 290 rfl dX11_read_288 rfl ?_
        refine R_iconst 291 rfl dX11_read_290 ?_
        refine R_iadd 292 rfl dX11_read_291 ?_
        refine R_iald (60 * k.toNat + ((f + 5 * (j : Int)).toNat + 4)) 293 rfl dX11_read_292 rfl (by first | rfl | omega) (by omega) (by decide) ?_
        rw [q0, q1, q2, q3, q4]
        refine R_callV_V (M' := mX11_adds) 296 rfl dX11_read_293 ml_X11_179 kmX11_adds im_X11_adds se_X11_adds rfl ⟨by decide, rfl⟩ (c_X11_adds _ _ _ _ _ hR1 (by omega)) rfl rfl ⟨Nat.le_of_ble_eq_true rfl, Nat.le_of_ble_eq_true rfl⟩ (Nat.le_of_ble_eq_true rfl) ⟨Nat.le_of_ble_eq_true rfl, Nat.le_of_ble_eq_true rfl⟩ ?_
        rintro m293 h293
        obtain ⟨f293, b293⟩ := h293
        refine R_iinc [_, _, _, _, _, _, _, _, _] 299 rfl dX11_read_296 rfl rfl (by decide) ?_
        refine R_goto 229 rfl dX11_read_299 ?_
        exact ih (by omega) _ _ _ _ _ hby hca (by omega) (hfb.tr f293) b293
    have Lx : rfs L B (S k.toNat) f 0 (rdW (S k.toNat) l f n).toNat = 0 → ∀ by' ca z x, by' = rdT (S k.toNat) l f n → ca = rdW (S k.toNat) l f n → R Γ mX11_read { frames := 3, cells := 0, slots := 0, locals := 120 } 0 0 (QR L (if rdGo L B S k l f n = true then addN B (S k.toNat) f (rdW (S k.toNat) l f n).toNat else B) ch T F I S (if rdGo L B S k l f n = true then rdT (S k.toNat) l f n else N) m (a_read L B S k l f n)) 0 0 226 [some (vr 96), some (vi k), some (vi l), some (vi f), some (vi n), some (vi by'), some (vi ca), some (vi z), x] [] SH m := by
      intro h0 by' ca z x hby hca
      refine R_iconst 227 rfl dX11_read_226 ?_
      refine R_istore [_, _, _, _, _, _, _, _, _] 229 rfl dX11_read_227 rfl (by decide) ?_
      exact La h0 0 (by omega) _ _ _ _ _ hby hca rfl Fb.rf hR.2.2.2.1
    have Lb : ∀ by' ca zz y, (by' = 1 ∨ by' = 2 ∨ by' = 3) → (0 ≤ zz ∧ zz ≤ 61) → by' = rdT (S k.toNat) l f n → ca = rdW (S k.toNat) l f n → rfs L B (S k.toNat) f 0 (rdW (S k.toNat) l f n).toNat = 0 → R Γ mX11_read { frames := 3, cells := 0, slots := 0, locals := 120 } 0 0 (QR L (if rdGo L B S k l f n = true then addN B (S k.toNat) f (rdW (S k.toNat) l f n).toNat else B) ch T F I S (if rdGo L B S k l f n = true then rdT (S k.toNat) l f n else N) m (a_read L B S k l f n)) 0 0 48 [some (vr 96), some (vi k), some (vi l), some (vi f), some (vi n), some (vi by'), some (vi ca), some (vi zz), y] [] SH m := by
      intro by' ca zz y h1 h2 h3 h4 h5
      refine R_iload 50 rfl dX11_read_48 rfl ?_
      refine R_iconst 51 rfl dX11_read_50 ?_
      refine R_iload 53 rfl dX11_read_51 rfl ?_
      refine R_imul 54 rfl dX11_read_53 ?_
      refine R_icmp_ge 57 226 rfl rfl dX11_read_54 (by first | assumption | exact ⟨by omega, by omega⟩) (by first | assumption | exact ⟨by omega, by omega⟩) (fun h54 => ?_) (fun h54 => ?_)
      · exact Lx h5 _ _ _ _ h3 h4
      · refine R_iload 59 rfl dX11_read_57 rfl ?_
        refine R_if_ne 62 226 rfl rfl dX11_read_59 (by first | assumption | exact ⟨by omega, by omega⟩) (fun h59 => ?_) (fun h59 => ?_)
        · exact Lx h5 _ _ _ _ h3 h4
        · exfalso; omega
    have L113 : ∀ ca zz y, (0 ≤ zz ∧ zz ≤ 60) → ca = rdW (S k.toNat) l f n → rdT (S k.toNat) l f n = 2 → rfs L B (S k.toNat) f 0 (rdW (S k.toNat) l f n).toNat = 0 → R Γ mX11_read { frames := 3, cells := 0, slots := 0, locals := 120 } 0 0 (QR L (if rdGo L B S k l f n = true then addN B (S k.toNat) f (rdW (S k.toNat) l f n).toNat else B) ch T F I S (if rdGo L B S k l f n = true then rdT (S k.toNat) l f n else N) m (a_read L B S k l f n)) 0 0 113 [some (vr 96), some (vi k), some (vi l), some (vi f), some (vi n), some (vi 0), some (vi ca), some (vi zz), y] [] SH m := by
      intro ca zz y h1 h2 h3 h4
      clear gl
      refine R_iconst 114 rfl dX11_read_113 ?_
      refine R_goto 118 rfl dX11_read_114 ?_
      refine R_istore [_, _, _, _, _, _, _, _, _] 120 rfl dX11_read_118 rfl (by decide) ?_
      refine R_iload 122 rfl dX11_read_120 rfl ?_
      refine R_if_ne 125 220 rfl rfl dX11_read_122 (by first | assumption | exact ⟨by omega, by omega⟩) (fun h122 => ?_) (fun h122 => ?_)
      rotate_left
      · exact absurd h122 (by omega)
      refine R_iinc [_, _, _, _, _, _, _, _, _] 223 rfl dX11_read_220 rfl rfl (by decide) ?_
      refine R_goto 48 rfl dX11_read_223 ?_
      exact Lb _ _ _ _ (by omega) (by omega) h3.symm h2 h4
    have hP := hR.1
    rcases (show n = 0 ∨ ¬ n = 0 by omega) with n0 | n0
    · have z0 := rd_0 (s := S k.toNat) (l := l) (f := f) n0
      clear gl
      refine R_iload_n 1 rfl dX11_read_0 rfl ?_
      refine R_i2l 2 rfl dX11_read_1 (by first | assumption | exact ⟨by omega, by omega⟩) ?_
      refine R_lconst 3 rfl dX11_read_2 ?_
      refine R_topL (b := 0) rfl ?_
      refine R_ldc2 (3) 6 rfl dX11_read_3 kl_X11_225 (by decide) ?_
      refine R_callS_i (M' := mX11_in) 9 rfl dX11_read_6 ml_X11_63 kmX11_in st_X11_in (c_X11_in _ _ _ (by first | assumption | exact ⟨by omega, by omega⟩ | exact rg_L (by assumption)) (by first | assumption | exact ⟨by omega, by omega⟩ | exact rg_L (by assumption)) (by first | assumption | exact ⟨by omega, by omega⟩ | exact rg_L (by assumption))) rfl rfl ⟨Nat.le_of_ble_eq_true rfl, Nat.le_of_ble_eq_true rfl⟩ (Nat.le_of_ble_eq_true rfl) ⟨Nat.le_of_ble_eq_true rfl, Nat.le_of_ble_eq_true rfl⟩ ?_
      refine R_ifp_eq 12 37 rfl rfl dX11_read_9 (fun h9 => ?_) (fun h9 => ?_)
      · refine R_iconst 38 rfl dX11_read_37 ?_
        refine R_ireturn dX11_read_38 rfl ?_
        exfalso; omega
      · refine R_iload_n 13 rfl dX11_read_12 rfl ?_
        refine R_i2l 14 rfl dX11_read_13 (by first | assumption | exact ⟨by omega, by omega⟩) ?_
        refine R_lconst 15 rfl dX11_read_14 ?_
        refine R_topL (b := 0) rfl ?_
        refine R_ldc2 (2) 18 rfl dX11_read_15 kl_X11_202 (by decide) ?_
        refine R_callS_i (M' := mX11_in) 21 rfl dX11_read_18 ml_X11_63 kmX11_in st_X11_in (c_X11_in _ _ _ (by first | assumption | exact ⟨by omega, by omega⟩ | exact rg_L (by assumption)) (by first | assumption | exact ⟨by omega, by omega⟩ | exact rg_L (by assumption)) (by first | assumption | exact ⟨by omega, by omega⟩ | exact rg_L (by assumption))) rfl rfl ⟨Nat.le_of_ble_eq_true rfl, Nat.le_of_ble_eq_true rfl⟩ (Nat.le_of_ble_eq_true rfl) ⟨Nat.le_of_ble_eq_true rfl, Nat.le_of_ble_eq_true rfl⟩ ?_
        refine R_ifp_eq 24 37 rfl rfl dX11_read_21 (fun h21 => ?_) (fun h21 => ?_)
        · refine R_iconst 38 rfl dX11_read_37 ?_
          refine R_ireturn dX11_read_38 rfl ?_
          exfalso; omega
        · refine R_iload 26 rfl dX11_read_24 rfl ?_
          refine R_i2l 27 rfl dX11_read_26 (by first | assumption | exact ⟨by omega, by omega⟩) ?_
          refine R_lconst 28 rfl dX11_read_27 ?_
          refine R_topL (b := 0) rfl ?_
          refine R_ldc2 (12) 31 rfl dX11_read_28 kl_X11_328 (by decide) ?_
          refine R_callS_i (M' := mX11_in) 34 rfl dX11_read_31 ml_X11_63 kmX11_in st_X11_in (c_X11_in _ _ _ (by first | assumption | exact ⟨by omega, by omega⟩ | exact rg_L (by assumption)) (by first | assumption | exact ⟨by omega, by omega⟩ | exact rg_L (by assumption)) (by first | assumption | exact ⟨by omega, by omega⟩ | exact rg_L (by assumption))) rfl rfl ⟨Nat.le_of_ble_eq_true rfl, Nat.le_of_ble_eq_true rfl⟩ (Nat.le_of_ble_eq_true rfl) ⟨Nat.le_of_ble_eq_true rfl, Nat.le_of_ble_eq_true rfl⟩ ?_
          refine R_ifp_ne 37 39 rfl rfl dX11_read_34 (fun h34 => ?_) (fun h34 => ?_)
          · refine R_iconst 40 rfl dX11_read_39 ?_
            refine R_istore [_, _, _, _, _, _, _, _, _] 42 rfl dX11_read_40 rfl (by decide) ?_
            refine R_iconst 43 rfl dX11_read_42 ?_
            refine R_istore [_, _, _, _, _, _, _, _, _] 45 rfl dX11_read_43 rfl (by decide) ?_
            refine R_iconst 46 rfl dX11_read_45 ?_
            refine R_istore [_, _, _, _, _, _, _, _, _] 48 rfl dX11_read_46 rfl (by decide) ?_
            refine R_iload 50 rfl dX11_read_48 rfl ?_
            refine R_iconst 51 rfl dX11_read_50 ?_
            refine R_iload 53 rfl dX11_read_51 rfl ?_
            refine R_imul 54 rfl dX11_read_53 ?_
            refine R_icmp_ge 57 226 rfl rfl dX11_read_54 (by first | assumption | exact ⟨by omega, by omega⟩) (by first | assumption | exact ⟨by omega, by omega⟩) (fun h54 => ?_) (fun h54 => ?_)
            · exact Lx (by rw [z0.1]; rfl) _ _ _ _ z0.2.symm z0.1.symm
            · refine R_iload 59 rfl dX11_read_57 rfl ?_
              refine R_if_ne 62 226 rfl rfl dX11_read_59 (by first | assumption | exact ⟨by omega, by omega⟩) (fun h59 => ?_) (fun h59 => ?_)
              · exact absurd h59 (by omega)
              exfalso; omega
          · refine R_iconst 38 rfl dX11_read_37 ?_
            refine R_ireturn dX11_read_38 rfl ?_
            exfalso; omega
    · rcases (show (S k.toNat).1 < 0 ∨ ¬ (S k.toNat).1 < 0 by omega) with s0 | s0
      · have z0 := rd_B (s := S k.toNat) (l := l) (f := f) n0 s0
        have gk := gl.1 s0
        clear gl
        refine R_iload_n 1 rfl dX11_read_0 rfl ?_
        refine R_i2l 2 rfl dX11_read_1 (by first | assumption | exact ⟨by omega, by omega⟩) ?_
        refine R_lconst 3 rfl dX11_read_2 ?_
        refine R_topL (b := 0) rfl ?_
        refine R_ldc2 (3) 6 rfl dX11_read_3 kl_X11_225 (by decide) ?_
        refine R_callS_i (M' := mX11_in) 9 rfl dX11_read_6 ml_X11_63 kmX11_in st_X11_in (c_X11_in _ _ _ (by first | assumption | exact ⟨by omega, by omega⟩ | exact rg_L (by assumption)) (by first | assumption | exact ⟨by omega, by omega⟩ | exact rg_L (by assumption)) (by first | assumption | exact ⟨by omega, by omega⟩ | exact rg_L (by assumption))) rfl rfl ⟨Nat.le_of_ble_eq_true rfl, Nat.le_of_ble_eq_true rfl⟩ (Nat.le_of_ble_eq_true rfl) ⟨Nat.le_of_ble_eq_true rfl, Nat.le_of_ble_eq_true rfl⟩ ?_
        refine R_ifp_eq 12 37 rfl rfl dX11_read_9 (fun h9 => ?_) (fun h9 => ?_)
        · refine R_iconst 38 rfl dX11_read_37 ?_
          refine R_ireturn dX11_read_38 rfl ?_
          exfalso; omega
        · refine R_iload_n 13 rfl dX11_read_12 rfl ?_
          refine R_i2l 14 rfl dX11_read_13 (by first | assumption | exact ⟨by omega, by omega⟩) ?_
          refine R_lconst 15 rfl dX11_read_14 ?_
          refine R_topL (b := 0) rfl ?_
          refine R_ldc2 (2) 18 rfl dX11_read_15 kl_X11_202 (by decide) ?_
          refine R_callS_i (M' := mX11_in) 21 rfl dX11_read_18 ml_X11_63 kmX11_in st_X11_in (c_X11_in _ _ _ (by first | assumption | exact ⟨by omega, by omega⟩ | exact rg_L (by assumption)) (by first | assumption | exact ⟨by omega, by omega⟩ | exact rg_L (by assumption)) (by first | assumption | exact ⟨by omega, by omega⟩ | exact rg_L (by assumption))) rfl rfl ⟨Nat.le_of_ble_eq_true rfl, Nat.le_of_ble_eq_true rfl⟩ (Nat.le_of_ble_eq_true rfl) ⟨Nat.le_of_ble_eq_true rfl, Nat.le_of_ble_eq_true rfl⟩ ?_
          refine R_ifp_eq 24 37 rfl rfl dX11_read_21 (fun h21 => ?_) (fun h21 => ?_)
          · refine R_iconst 38 rfl dX11_read_37 ?_
            refine R_ireturn dX11_read_38 rfl ?_
            exfalso; omega
          · refine R_iload 26 rfl dX11_read_24 rfl ?_
            refine R_i2l 27 rfl dX11_read_26 (by first | assumption | exact ⟨by omega, by omega⟩) ?_
            refine R_lconst 28 rfl dX11_read_27 ?_
            refine R_topL (b := 0) rfl ?_
            refine R_ldc2 (12) 31 rfl dX11_read_28 kl_X11_328 (by decide) ?_
            refine R_callS_i (M' := mX11_in) 34 rfl dX11_read_31 ml_X11_63 kmX11_in st_X11_in (c_X11_in _ _ _ (by first | assumption | exact ⟨by omega, by omega⟩ | exact rg_L (by assumption)) (by first | assumption | exact ⟨by omega, by omega⟩ | exact rg_L (by assumption)) (by first | assumption | exact ⟨by omega, by omega⟩ | exact rg_L (by assumption))) rfl rfl ⟨Nat.le_of_ble_eq_true rfl, Nat.le_of_ble_eq_true rfl⟩ (Nat.le_of_ble_eq_true rfl) ⟨Nat.le_of_ble_eq_true rfl, Nat.le_of_ble_eq_true rfl⟩ ?_
            refine R_ifp_ne 37 39 rfl rfl dX11_read_34 (fun h34 => ?_) (fun h34 => ?_)
            · refine R_iconst 40 rfl dX11_read_39 ?_
              refine R_istore [_, _, _, _, _, _, _, _, _] 42 rfl dX11_read_40 rfl (by decide) ?_
              refine R_iconst 43 rfl dX11_read_42 ?_
              refine R_istore [_, _, _, _, _, _, _, _, _] 45 rfl dX11_read_43 rfl (by decide) ?_
              refine R_iconst 46 rfl dX11_read_45 ?_
              refine R_istore [_, _, _, _, _, _, _, _, _] 48 rfl dX11_read_46 rfl (by decide) ?_
              refine R_iload 50 rfl dX11_read_48 rfl ?_
              refine R_iconst 51 rfl dX11_read_50 ?_
              refine R_iload 53 rfl dX11_read_51 rfl ?_
              refine R_imul 54 rfl dX11_read_53 ?_
              refine R_icmp_ge 57 226 rfl rfl dX11_read_54 (by first | assumption | exact ⟨by omega, by omega⟩) (by first | assumption | exact ⟨by omega, by omega⟩) (fun h54 => ?_) (fun h54 => ?_)
              · first | exact Lx (by rw [z0.1]; rfl) _ _ _ _ z0.2.symm z0.1.symm | (exfalso; omega)
              · refine R_iload 59 rfl dX11_read_57 rfl ?_
                refine R_if_ne 62 226 rfl rfl dX11_read_59 (by first | assumption | exact ⟨by omega, by omega⟩) (fun h59 => ?_) (fun h59 => ?_)
                · exact absurd h59 (by omega)
                refine R_aload_n 63 rfl dX11_read_62 rfl ?_
                refine R_getP 31 66 rfl dX11_read_63 rfl rfl fl_X11_50 (hP _ _ _ rfl) ?_
                refine R_iload_n 67 rfl dX11_read_66 rfl ?_
                refine R_iald k.toNat 68 rfl dX11_read_67 rfl (by first | rfl | omega) (by omega) (by decide) ?_
                rw [gk]
                refine R_bipush 70 rfl dX11_read_68 (by decide) ?_
                refine R_icmp_ne 73 77 rfl rfl dX11_read_70 (by first | assumption | exact ⟨by omega, by omega⟩) (by first | assumption | exact ⟨by omega, by omega⟩) (fun h70 => ?_) (fun h70 => ?_)
                · exact absurd h70 (by omega)
                refine R_iconst 74 rfl dX11_read_73 ?_
                refine R_goto 118 rfl dX11_read_74 ?_
                refine R_istore [_, _, _, _, _, _, _, _, _] 120 rfl dX11_read_118 rfl (by decide) ?_
                refine R_iload 122 rfl dX11_read_120 rfl ?_
                refine R_if_ne 125 220 rfl rfl dX11_read_122 (by first | assumption | exact ⟨by omega, by omega⟩) (fun h122 => ?_) (fun h122 => ?_)
                rotate_left
                · exact absurd h122 (by omega)
                refine R_iinc [_, _, _, _, _, _, _, _, _] 223 rfl dX11_read_220 rfl rfl (by decide) ?_
                refine R_goto 48 rfl dX11_read_223 ?_
                refine R_iload 50 rfl dX11_read_48 rfl ?_
                refine R_iconst 51 rfl dX11_read_50 ?_
                refine R_iload 53 rfl dX11_read_51 rfl ?_
                refine R_imul 54 rfl dX11_read_53 ?_
                refine R_icmp_ge 57 226 rfl rfl dX11_read_54 (by first | assumption | exact ⟨by omega, by omega⟩) (by first | assumption | exact ⟨by omega, by omega⟩) (fun h54 => ?_) (fun h54 => ?_)
                · first | exact Lx (by rw [z0.1]; rfl) _ _ _ _ z0.2.symm z0.1.symm | (exfalso; omega)
                · refine R_iload 59 rfl dX11_read_57 rfl ?_
                  refine R_if_ne 62 226 rfl rfl dX11_read_59 (by first | assumption | exact ⟨by omega, by omega⟩) (fun h59 => ?_) (fun h59 => ?_)
                  rotate_left
                  · exact absurd h59 (by omega)
                  first | exact Lx (by rw [z0.1]; rfl) _ _ _ _ z0.2.symm z0.1.symm | (exfalso; omega)
            · refine R_iconst 38 rfl dX11_read_37 ?_
              refine R_ireturn dX11_read_38 rfl ?_
              exfalso; omega
      · have gk := gl.2 s0
        have g3 := g1 (by omega)
        clear gl
        rcases (show l = (S k.toNat).2.1 ∨ ¬ l = (S k.toNat).2.1 by omega) with l0 | l0
        · rw [← l0] at gk
          obtain ⟨dA, dB, dC⟩ := rd_D (s := S k.toNat) (f := f) (show 1 ≤ n by omega) s0 l0
          have Lp : ∀ i, i ≤ 5 * n.toNat → ∀ ca z x, z = (i : Int) → ca = ((i / 5 : Nat) : Int) → (0 < i → 0 ≤ f ∧ f + (i : Int) ≤ (S k.toNat).1) → rfs L B (S k.toNat) f (i / 5) ((rdW (S k.toNat) l f n).toNat - i / 5) = rfs L B (S k.toNat) f 0 (rdW (S k.toNat) l f n).toNat → B.1 + i / 5 ≤ 40 → R Γ mX11_read { frames := 3, cells := 0, slots := 0, locals := 120 } 0 0 (QR L (if rdGo L B S k l f n = true then addN B (S k.toNat) f (rdW (S k.toNat) l f n).toNat else B) ch T F I S (if rdGo L B S k l f n = true then rdT (S k.toNat) l f n else N) m (a_read L B S k l f n)) 0 0 48 [some (vr 96), some (vi k), some (vi l), some (vi f), some (vi n), some (vi 0), some (vi ca), some (vi z), x] [] SH m := by
            refine up_ind (5 * n.toNat) (fun i hi ih ca z x hz hca hin hrf h40 => ?_)
            refine R_iload 50 rfl dX11_read_48 rfl ?_
            refine R_iconst 51 rfl dX11_read_50 ?_
            refine R_iload 53 rfl dX11_read_51 rfl ?_
            refine R_imul 54 rfl dX11_read_53 ?_
            refine R_icmp_ge 57 226 rfl rfl dX11_read_54 (by first | assumption | exact ⟨by omega, by omega⟩) (by first | assumption | exact ⟨by omega, by omega⟩) (fun h54 => ?_) (fun h54 => ?_)
            · have dd := dB i (by omega) (hin (by omega)).1 (hin (by omega)).2
              have e5 : (rdW (S k.toNat) l f n).toNat - i / 5 = 0 := by rw [dd.1]; omega
              rw [e5] at hrf
              exact Lx hrf.symm _ _ _ _ dd.2.symm (by rw [dd.1]; exact hca)
            · refine R_iload 59 rfl dX11_read_57 rfl ?_
              refine R_if_ne 62 226 rfl rfl dX11_read_59 (by first | assumption | exact ⟨by omega, by omega⟩) (fun h59 => ?_) (fun h59 => ?_)
              · exact absurd h59 (by omega)
              refine R_aload_n 63 rfl dX11_read_62 rfl ?_
              refine R_getP 31 66 rfl dX11_read_63 rfl rfl fl_X11_50 (hP _ _ _ rfl) ?_
              refine R_iload_n 67 rfl dX11_read_66 rfl ?_
              refine R_iald k.toNat 68 rfl dX11_read_67 rfl (by first | rfl | omega) (by omega) (by decide) ?_
              rw [gk]
              refine R_bipush 70 rfl dX11_read_68 (by decide) ?_
              refine R_icmp_ne 73 77 rfl rfl dX11_read_70 (by first | assumption | exact ⟨by omega, by omega⟩) (by first | assumption | exact ⟨by omega, by omega⟩) (fun h70 => ?_) (fun h70 => ?_)
              · refine R_aload_n 78 rfl dX11_read_77 rfl ?_
                refine R_getP 31 81 rfl dX11_read_78 rfl rfl fl_X11_50 (hP _ _ _ rfl) ?_
                refine R_iload_n 82 rfl dX11_read_81 rfl ?_
                refine R_iald k.toNat 83 rfl dX11_read_82 rfl (by first | rfl | omega) (by omega) (by decide) ?_
                rw [gk]
                refine R_iload_n 84 rfl dX11_read_83 rfl ?_
                refine R_icmp_eq 87 91 rfl rfl dX11_read_84 (by first | assumption | exact ⟨by omega, by omega⟩) (by first | assumption | exact ⟨by omega, by omega⟩) (fun h84 => ?_) (fun h84 => ?_)
                · refine R_iload_n 92 rfl dX11_read_91 rfl ?_
                  refine R_i2l 93 rfl dX11_read_92 (by first | assumption | exact ⟨by omega, by omega⟩) ?_
                  refine R_iload 95 rfl dX11_read_93 rfl ?_
                  refine R_i2l 96 rfl dX11_read_95 (by first | assumption | exact ⟨by omega, by omega⟩) ?_
                  refine R_ladd 97 rfl dX11_read_96 ?_
                  refine R_lconst 98 rfl dX11_read_97 ?_
                  refine R_topL (b := 0) rfl ?_
                  refine R_aload_n 99 rfl dX11_read_98 rfl ?_
                  refine R_getP 32 102 rfl dX11_read_99 rfl rfl fl_X11_53 (hP _ _ _ rfl) ?_
                  refine R_iload_n 103 rfl dX11_read_102 rfl ?_
                  refine R_iald k.toNat 104 rfl dX11_read_103 rfl (by first | rfl | omega) (by omega) (by decide) ?_
                  rw [g3]
                  refine R_iconst 105 rfl dX11_read_104 ?_
                  refine R_isub 106 rfl dX11_read_105 ?_
                  refine R_i2l 107 rfl dX11_read_106 (by first | assumption | exact ⟨by omega, by omega⟩) ?_
                  refine R_callS_i (M' := mX11_in) 110 rfl dX11_read_107 ml_X11_63 kmX11_in st_X11_in (c_X11_in _ _ _ ⟨by omega, by omega⟩ ⟨by omega, by omega⟩ ⟨by omega, by omega⟩) rfl rfl ⟨Nat.le_of_ble_eq_true rfl, Nat.le_of_ble_eq_true rfl⟩ (Nat.le_of_ble_eq_true rfl) ⟨Nat.le_of_ble_eq_true rfl, Nat.le_of_ble_eq_true rfl⟩ ?_
                  refine R_ifp_ne 113 117 rfl rfl dX11_read_110 (fun h110 => ?_) (fun h110 => ?_)
                  · refine R_iconst 118 rfl dX11_read_117 ?_
                    refine R_istore [_, _, _, _, _, _, _, _, _] 120 rfl dX11_read_118 rfl (by decide) ?_
                    refine R_iload 122 rfl dX11_read_120 rfl ?_
                    refine R_if_ne 125 220 rfl rfl dX11_read_122 (by first | assumption | exact ⟨by omega, by omega⟩) (fun h122 => ?_) (fun h122 => ?_)
                    · exact absurd h122 (by omega)
                    have w5 : 0 ≤ f ∧ f + (i : Int) < (S k.toNat).1 := by omega
                    refine R_iload 127 rfl dX11_read_125 rfl ?_
                    refine R_iconst 128 rfl dX11_read_127 ?_
                    refine R_irem_p 129 rfl dX11_read_128 (by first | assumption | exact ⟨by omega, by omega⟩) (by first | assumption | exact ⟨by omega, by omega⟩) (by omega) (by omega) ?_
                    refine R_iconst 130 rfl dX11_read_129 ?_
                    refine R_icmp_ne 133 220 rfl rfl dX11_read_130 (by first | assumption | exact ⟨by omega, by omega⟩) (by first | assumption | exact ⟨by omega, by omega⟩) (fun h130 => ?_) (fun h130 => ?_)
                    · refine R_iinc [_, _, _, _, _, _, _, _, _] 223 rfl dX11_read_220 rfl rfl (by decide) ?_
                      refine R_goto 48 rfl dX11_read_223 ?_
                      first
                        | (rw [if_pos h193, if_neg (by omega), show (rdW (S k.toNat) l f n).toNat - i / 5 - 1 = (rdW (S k.toNat) l f n).toNat - (i + 1) / 5 by omega, show i / 5 + 1 = (i + 1) / 5 by omega] at hrf
                           exact ih (by omega) _ _ _ (by omega) (by omega) (fun _ => by omega) hrf (by omega))
                        | exact ih (by omega) _ _ _ (by omega) (by omega) (fun _ => by omega) (by rw [show (i + 1) / 5 = i / 5 by omega]; exact hrf) (by omega)
                    · have wi : i / 5 < (rdW (S k.toNat) l f n).toNat := dA i (by omega) w5.1 w5.2 (by omega)
                      have q0 : m.1 112 (60 * k.toNat + ((f + 5 * ((i / 5 : Nat) : Int)).toNat + 0)) = cel (S k.toNat) f (i / 5) 0 := g2 _ (by omega)
                      have q1 : m.1 112 (60 * k.toNat + ((f + 5 * ((i / 5 : Nat) : Int)).toNat + 1)) = cel (S k.toNat) f (i / 5) 1 := g2 _ (by omega)
                      have q2 : m.1 112 (60 * k.toNat + ((f + 5 * ((i / 5 : Nat) : Int)).toNat + 2)) = cel (S k.toNat) f (i / 5) 2 := g2 _ (by omega)
                      have q3 : m.1 112 (60 * k.toNat + ((f + 5 * ((i / 5 : Nat) : Int)).toNat + 3)) = cel (S k.toNat) f (i / 5) 3 := g2 _ (by omega)
                      have q4 : m.1 112 (60 * k.toNat + ((f + 5 * ((i / 5 : Nat) : Int)).toNat + 4)) = cel (S k.toNat) f (i / 5) 4 := g2 _ (by omega)
                      have r0 : rg (cel (S k.toNat) f (i / 5) 0) := so.2 _ (by omega)
                      have r1 : rg (cel (S k.toNat) f (i / 5) 1) := so.2 _ (by omega)
                      have r2 : rg (cel (S k.toNat) f (i / 5) 2) := so.2 _ (by omega)
                      have r3 : rg (cel (S k.toNat) f (i / 5) 3) := so.2 _ (by omega)
                      have r4 : rg (cel (S k.toNat) f (i / 5) 4) := so.2 _ (by omega)
                      rw [show (rdW (S k.toNat) l f n).toNat - i / 5 = ((rdW (S k.toNat) l f n).toNat - i / 5 - 1) + 1 by omega, rfs_s] at hrf
                      refine R_bipush 135 rfl dX11_read_133 (by decide) ?_
                      refine R_iload_n 136 rfl dX11_read_135 rfl ?_
                      refine R_imul 137 rfl dX11_read_136 ?_
                      refine R_iload_n 138 rfl dX11_read_137 rfl ?_
                      refine R_iadd 139 rfl dX11_read_138 ?_
                      refine R_iload 141 rfl dX11_read_139 rfl ?_
                      refine R_iadd 142 rfl dX11_read_141 ?_
                      refine R_iconst 143 rfl dX11_read_142 ?_
                      refine R_isub 144 rfl dX11_read_143 ?_
                      refine R_istore [_, _, _, _, _, _, _, _, _] 146 rfl dX11_read_144 rfl (by decide) ?_
                      refine R_aload_n 147 rfl dX11_read_146 rfl ?_
                      refine R_aload_n 148 rfl dX11_read_147 rfl ?_
                      refine R_getP 33 151 rfl dX11_read_148 rfl rfl fl_X11_56 (hP _ _ _ rfl) ?_
                      refine R_iload 153 rfl dX11_read_151 rfl ?_
                      refine R_iald (60 * k.toNat + ((f + 5 * ((i / 5 : Nat) : Int)).toNat + 0)) 154 rfl dX11_read_153 rfl (by first | rfl | omega) (by omega) (by decide) ?_
                      refine R_aload_n 155 rfl dX11_read_154 rfl ?_
                      refine R_getP 33 158 rfl dX11_read_155 rfl rfl fl_X11_56 (hP _ _ _ rfl) ?_
                      refine R_iload 160 rfl dX11_read_158 rfl ?_
                      refine R_iconst 161 rfl dX11_read_160 ?_
                      refine R_iadd 162 rfl dX11_read_161 ?_
                      refine R_iald (60 * k.toNat + ((f + 5 * ((i / 5 : Nat) : Int)).toNat + 1)) 163 rfl dX11_read_162 rfl (by first | rfl | omega) (by omega) (by decide) ?_
                      refine R_aload_n 164 rfl dX11_read_163 rfl ?_
                      refine R_getP 33 167 rfl dX11_read_164 rfl rfl fl_X11_56 (hP _ _ _ rfl) ?_
                      refine R_iload 169 rfl dX11_read_167 rfl ?_
                      refine R_iconst 170 rfl dX11_read_169 ?_
                      refine R_iadd 171 rfl dX11_read_170 ?_
                      refine R_iald (60 * k.toNat + ((f + 5 * ((i / 5 : Nat) : Int)).toNat + 2)) 172 rfl dX11_read_171 rfl (by first | rfl | omega) (by omega) (by decide) ?_
                      refine R_aload_n 173 rfl dX11_read_172 rfl ?_
                      refine R_getP 33 176 rfl dX11_read_173 rfl rfl fl_X11_56 (hP _ _ _ rfl) ?_
                      refine R_iload 178 rfl dX11_read_176 rfl ?_
                      refine R_iconst 179 rfl dX11_read_178 ?_
                      refine R_iadd 180 rfl dX11_read_179 ?_
                      refine R_iald (60 * k.toNat + ((f + 5 * ((i / 5 : Nat) : Int)).toNat + 3)) 181 rfl dX11_read_180 rfl (by first | rfl | omega) (by omega) (by decide) ?_
                      refine R_aload_n 182 rfl dX11_read_181 rfl ?_
                      refine R_getP 33 185 rfl dX11_read_182 rfl rfl fl_X11_56 (hP _ _ _ rfl) ?_
                      refine R_iload 187 rfl dX11_read_185 rfl ?_
                      refine R_iconst 188 rfl dX11_read_187 ?_
                      refine R_iadd 189 rfl dX11_read_188 ?_
                      refine R_iald (60 * k.toNat + ((f + 5 * ((i / 5 : Nat) : Int)).toNat + 4)) 190 rfl dX11_read_189 rfl (by first | rfl | omega) (by omega) (by decide) ?_
                      rw [q0, q1, q2, q3, q4]
                      refine R_callV_i (M' := mX11_isMarry) 193 rfl dX11_read_190 ml_X11_175 kmX11_isMarry im_X11_isMarry se_X11_isMarry rfl ⟨by decide, rfl⟩ (c_X11_isMarry _ _ _ _ _ hR r0 r1 r2 r3 r4) rfl rfl ⟨Nat.le_of_ble_eq_true rfl, Nat.le_of_ble_eq_true rfl⟩ (Nat.le_of_ble_eq_true rfl) ⟨Nat.le_of_ble_eq_true rfl, Nat.le_of_ble_eq_true rfl⟩ ?_
                      refine R_ifp_ne 196 202 rfl rfl dX11_read_193 (fun h193 => ?_) (fun h193 => ?_)
                      · refine R_aload_n 203 rfl dX11_read_202 rfl ?_
                        refine R_callV_i (M' := mX11_size) 206 rfl dX11_read_203 ml_X11_150 kmX11_size im_X11_size se_X11_size rfl ⟨by decide, rfl⟩ (c_X11_size hR) rfl rfl ⟨Nat.le_of_ble_eq_true rfl, Nat.le_of_ble_eq_true rfl⟩ (Nat.le_of_ble_eq_true rfl) ⟨Nat.le_of_ble_eq_true rfl, Nat.le_of_ble_eq_true rfl⟩ ?_
                        refine R_iload 208 rfl dX11_read_206 rfl ?_
                        refine R_iadd 209 rfl dX11_read_208 ?_
                        refine R_bipush 211 rfl dX11_read_209 (by decide) ?_
                        refine R_icmp_ne 214 217 rfl rfl dX11_read_211 (by first | assumption | exact ⟨by omega, by omega⟩) (by first | assumption | exact ⟨by omega, by omega⟩) (fun h211 => ?_) (fun h211 => ?_)
                        · refine R_iinc [_, _, _, _, _, _, _, _, _] 220 rfl dX11_read_217 rfl rfl (by decide) ?_
                          refine R_iinc [_, _, _, _, _, _, _, _, _] 223 rfl dX11_read_220 rfl rfl (by decide) ?_
                          refine R_goto 48 rfl dX11_read_223 ?_
                          first
                            | (rw [if_pos h193, if_neg (by omega), show (rdW (S k.toNat) l f n).toNat - i / 5 - 1 = (rdW (S k.toNat) l f n).toNat - (i + 1) / 5 by omega, show i / 5 + 1 = (i + 1) / 5 by omega] at hrf
                               exact ih (by omega) _ _ _ (by omega) (by omega) (fun _ => by omega) hrf (by omega))
                            | exact ih (by omega) _ _ _ (by omega) (by omega) (fun _ => by omega) (by rw [show (i + 1) / 5 = i / 5 by omega]; exact hrf) (by omega)
                        · refine R_bipush 216 rfl dX11_read_214 (by decide) ?_
                          refine R_ireturn dX11_read_216 rfl ?_
                          rw [if_pos h193, if_pos (by omega)] at hrf
                          have hRR : ¬ rdR L B (S k.toNat) l f n = 0 := by unfold rdR; omega
                          have hc : ¬ rdGo L B S k l f n = true := fun q => by unfold rdGo at q; simp only [Bool.and_eq_true] at q; exact hRR (of_decide_eq_true q.2)
                          rw [if_neg hc, if_neg hc]
                          exact QI_mk ⟨by unfold a_read; rw [if_pos kd, if_neg hRR]; unfold rdR; omega, Fl.rf, hR, hX⟩
                      · refine R_bipush 198 rfl dX11_read_196 (by decide) ?_
                        refine R_iload 200 rfl dX11_read_198 rfl ?_
                        refine R_isub 201 rfl dX11_read_200 ?_
                        refine R_ireturn dX11_read_201 rfl ?_
                        rw [if_neg h193] at hrf
                        have hRR : ¬ rdR L B (S k.toNat) l f n = 0 := by unfold rdR; omega
                        have hc : ¬ rdGo L B S k l f n = true := fun q => by unfold rdGo at q; simp only [Bool.and_eq_true] at q; exact hRR (of_decide_eq_true q.2)
                        rw [if_neg hc, if_neg hc]
                        exact QI_mk ⟨by unfold a_read; rw [if_pos kd, if_neg hRR]; unfold rdR; omega, Fl.rf, hR, hX⟩
                  · have dd := dC i (by omega) (by omega) hin
                    have e5 : (rdW (S k.toNat) l f n).toNat - i / 5 = 0 := by rw [dd.1]; omega
                    rw [e5] at hrf
                    exact L113 _ _ _ (by omega) (by rw [dd.1]; exact hca) dd.2 hrf.symm
                · exfalso; omega
              · exfalso; omega
          refine R_iload_n 1 rfl dX11_read_0 rfl ?_
          refine R_i2l 2 rfl dX11_read_1 (by first | assumption | exact ⟨by omega, by omega⟩) ?_
          refine R_lconst 3 rfl dX11_read_2 ?_
          refine R_topL (b := 0) rfl ?_
          refine R_ldc2 (3) 6 rfl dX11_read_3 kl_X11_225 (by decide) ?_
          refine R_callS_i (M' := mX11_in) 9 rfl dX11_read_6 ml_X11_63 kmX11_in st_X11_in (c_X11_in _ _ _ (by first | assumption | exact ⟨by omega, by omega⟩ | exact rg_L (by assumption)) (by first | assumption | exact ⟨by omega, by omega⟩ | exact rg_L (by assumption)) (by first | assumption | exact ⟨by omega, by omega⟩ | exact rg_L (by assumption))) rfl rfl ⟨Nat.le_of_ble_eq_true rfl, Nat.le_of_ble_eq_true rfl⟩ (Nat.le_of_ble_eq_true rfl) ⟨Nat.le_of_ble_eq_true rfl, Nat.le_of_ble_eq_true rfl⟩ ?_
          refine R_ifp_eq 12 37 rfl rfl dX11_read_9 (fun h9 => ?_) (fun h9 => ?_)
          · refine R_iconst 38 rfl dX11_read_37 ?_
            refine R_ireturn dX11_read_38 rfl ?_
            exfalso; omega
          · refine R_iload_n 13 rfl dX11_read_12 rfl ?_
            refine R_i2l 14 rfl dX11_read_13 (by first | assumption | exact ⟨by omega, by omega⟩) ?_
            refine R_lconst 15 rfl dX11_read_14 ?_
            refine R_topL (b := 0) rfl ?_
            refine R_ldc2 (2) 18 rfl dX11_read_15 kl_X11_202 (by decide) ?_
            refine R_callS_i (M' := mX11_in) 21 rfl dX11_read_18 ml_X11_63 kmX11_in st_X11_in (c_X11_in _ _ _ (by first | assumption | exact ⟨by omega, by omega⟩ | exact rg_L (by assumption)) (by first | assumption | exact ⟨by omega, by omega⟩ | exact rg_L (by assumption)) (by first | assumption | exact ⟨by omega, by omega⟩ | exact rg_L (by assumption))) rfl rfl ⟨Nat.le_of_ble_eq_true rfl, Nat.le_of_ble_eq_true rfl⟩ (Nat.le_of_ble_eq_true rfl) ⟨Nat.le_of_ble_eq_true rfl, Nat.le_of_ble_eq_true rfl⟩ ?_
            refine R_ifp_eq 24 37 rfl rfl dX11_read_21 (fun h21 => ?_) (fun h21 => ?_)
            · refine R_iconst 38 rfl dX11_read_37 ?_
              refine R_ireturn dX11_read_38 rfl ?_
              exfalso; omega
            · refine R_iload 26 rfl dX11_read_24 rfl ?_
              refine R_i2l 27 rfl dX11_read_26 (by first | assumption | exact ⟨by omega, by omega⟩) ?_
              refine R_lconst 28 rfl dX11_read_27 ?_
              refine R_topL (b := 0) rfl ?_
              refine R_ldc2 (12) 31 rfl dX11_read_28 kl_X11_328 (by decide) ?_
              refine R_callS_i (M' := mX11_in) 34 rfl dX11_read_31 ml_X11_63 kmX11_in st_X11_in (c_X11_in _ _ _ (by first | assumption | exact ⟨by omega, by omega⟩ | exact rg_L (by assumption)) (by first | assumption | exact ⟨by omega, by omega⟩ | exact rg_L (by assumption)) (by first | assumption | exact ⟨by omega, by omega⟩ | exact rg_L (by assumption))) rfl rfl ⟨Nat.le_of_ble_eq_true rfl, Nat.le_of_ble_eq_true rfl⟩ (Nat.le_of_ble_eq_true rfl) ⟨Nat.le_of_ble_eq_true rfl, Nat.le_of_ble_eq_true rfl⟩ ?_
              refine R_ifp_ne 37 39 rfl rfl dX11_read_34 (fun h34 => ?_) (fun h34 => ?_)
              · refine R_iconst 40 rfl dX11_read_39 ?_
                refine R_istore [_, _, _, _, _, _, _, _, _] 42 rfl dX11_read_40 rfl (by decide) ?_
                refine R_iconst 43 rfl dX11_read_42 ?_
                refine R_istore [_, _, _, _, _, _, _, _, _] 45 rfl dX11_read_43 rfl (by decide) ?_
                refine R_iconst 46 rfl dX11_read_45 ?_
                refine R_istore [_, _, _, _, _, _, _, _, _] 48 rfl dX11_read_46 rfl (by decide) ?_
                exact Lp 0 (by omega) _ _ _ rfl rfl (fun q => by omega) rfl (by omega)
              · refine R_iconst 38 rfl dX11_read_37 ?_
                refine R_ireturn dX11_read_38 rfl ?_
                exfalso; omega
        · have z0 := rd_C (s := S k.toNat) (l := l) (f := f) n0 s0 l0
          refine R_iload_n 1 rfl dX11_read_0 rfl ?_
          refine R_i2l 2 rfl dX11_read_1 (by first | assumption | exact ⟨by omega, by omega⟩) ?_
          refine R_lconst 3 rfl dX11_read_2 ?_
          refine R_topL (b := 0) rfl ?_
          refine R_ldc2 (3) 6 rfl dX11_read_3 kl_X11_225 (by decide) ?_
          refine R_callS_i (M' := mX11_in) 9 rfl dX11_read_6 ml_X11_63 kmX11_in st_X11_in (c_X11_in _ _ _ (by first | assumption | exact ⟨by omega, by omega⟩ | exact rg_L (by assumption)) (by first | assumption | exact ⟨by omega, by omega⟩ | exact rg_L (by assumption)) (by first | assumption | exact ⟨by omega, by omega⟩ | exact rg_L (by assumption))) rfl rfl ⟨Nat.le_of_ble_eq_true rfl, Nat.le_of_ble_eq_true rfl⟩ (Nat.le_of_ble_eq_true rfl) ⟨Nat.le_of_ble_eq_true rfl, Nat.le_of_ble_eq_true rfl⟩ ?_
          refine R_ifp_eq 12 37 rfl rfl dX11_read_9 (fun h9 => ?_) (fun h9 => ?_)
          · refine R_iconst 38 rfl dX11_read_37 ?_
            refine R_ireturn dX11_read_38 rfl ?_
            exfalso; omega
          · refine R_iload_n 13 rfl dX11_read_12 rfl ?_
            refine R_i2l 14 rfl dX11_read_13 (by first | assumption | exact ⟨by omega, by omega⟩) ?_
            refine R_lconst 15 rfl dX11_read_14 ?_
            refine R_topL (b := 0) rfl ?_
            refine R_ldc2 (2) 18 rfl dX11_read_15 kl_X11_202 (by decide) ?_
            refine R_callS_i (M' := mX11_in) 21 rfl dX11_read_18 ml_X11_63 kmX11_in st_X11_in (c_X11_in _ _ _ (by first | assumption | exact ⟨by omega, by omega⟩ | exact rg_L (by assumption)) (by first | assumption | exact ⟨by omega, by omega⟩ | exact rg_L (by assumption)) (by first | assumption | exact ⟨by omega, by omega⟩ | exact rg_L (by assumption))) rfl rfl ⟨Nat.le_of_ble_eq_true rfl, Nat.le_of_ble_eq_true rfl⟩ (Nat.le_of_ble_eq_true rfl) ⟨Nat.le_of_ble_eq_true rfl, Nat.le_of_ble_eq_true rfl⟩ ?_
            refine R_ifp_eq 24 37 rfl rfl dX11_read_21 (fun h21 => ?_) (fun h21 => ?_)
            · refine R_iconst 38 rfl dX11_read_37 ?_
              refine R_ireturn dX11_read_38 rfl ?_
              exfalso; omega
            · refine R_iload 26 rfl dX11_read_24 rfl ?_
              refine R_i2l 27 rfl dX11_read_26 (by first | assumption | exact ⟨by omega, by omega⟩) ?_
              refine R_lconst 28 rfl dX11_read_27 ?_
              refine R_topL (b := 0) rfl ?_
              refine R_ldc2 (12) 31 rfl dX11_read_28 kl_X11_328 (by decide) ?_
              refine R_callS_i (M' := mX11_in) 34 rfl dX11_read_31 ml_X11_63 kmX11_in st_X11_in (c_X11_in _ _ _ (by first | assumption | exact ⟨by omega, by omega⟩ | exact rg_L (by assumption)) (by first | assumption | exact ⟨by omega, by omega⟩ | exact rg_L (by assumption)) (by first | assumption | exact ⟨by omega, by omega⟩ | exact rg_L (by assumption))) rfl rfl ⟨Nat.le_of_ble_eq_true rfl, Nat.le_of_ble_eq_true rfl⟩ (Nat.le_of_ble_eq_true rfl) ⟨Nat.le_of_ble_eq_true rfl, Nat.le_of_ble_eq_true rfl⟩ ?_
              refine R_ifp_ne 37 39 rfl rfl dX11_read_34 (fun h34 => ?_) (fun h34 => ?_)
              · refine R_iconst 40 rfl dX11_read_39 ?_
                refine R_istore [_, _, _, _, _, _, _, _, _] 42 rfl dX11_read_40 rfl (by decide) ?_
                refine R_iconst 43 rfl dX11_read_42 ?_
                refine R_istore [_, _, _, _, _, _, _, _, _] 45 rfl dX11_read_43 rfl (by decide) ?_
                refine R_iconst 46 rfl dX11_read_45 ?_
                refine R_istore [_, _, _, _, _, _, _, _, _] 48 rfl dX11_read_46 rfl (by decide) ?_
                refine R_iload 50 rfl dX11_read_48 rfl ?_
                refine R_iconst 51 rfl dX11_read_50 ?_
                refine R_iload 53 rfl dX11_read_51 rfl ?_
                refine R_imul 54 rfl dX11_read_53 ?_
                refine R_icmp_ge 57 226 rfl rfl dX11_read_54 (by first | assumption | exact ⟨by omega, by omega⟩) (by first | assumption | exact ⟨by omega, by omega⟩) (fun h54 => ?_) (fun h54 => ?_)
                · first | exact Lx (by rw [z0.1]; rfl) _ _ _ _ z0.2.symm z0.1.symm | (exfalso; omega)
                · refine R_iload 59 rfl dX11_read_57 rfl ?_
                  refine R_if_ne 62 226 rfl rfl dX11_read_59 (by first | assumption | exact ⟨by omega, by omega⟩) (fun h59 => ?_) (fun h59 => ?_)
                  · exact absurd h59 (by omega)
                  refine R_aload_n 63 rfl dX11_read_62 rfl ?_
                  refine R_getP 31 66 rfl dX11_read_63 rfl rfl fl_X11_50 (hP _ _ _ rfl) ?_
                  refine R_iload_n 67 rfl dX11_read_66 rfl ?_
                  refine R_iald k.toNat 68 rfl dX11_read_67 rfl (by first | rfl | omega) (by omega) (by decide) ?_
                  rw [gk]
                  refine R_bipush 70 rfl dX11_read_68 (by decide) ?_
                  refine R_icmp_ne 73 77 rfl rfl dX11_read_70 (by first | assumption | exact ⟨by omega, by omega⟩) (by first | assumption | exact ⟨by omega, by omega⟩) (fun h70 => ?_) (fun h70 => ?_)
                  · refine R_aload_n 78 rfl dX11_read_77 rfl ?_
                    refine R_getP 31 81 rfl dX11_read_78 rfl rfl fl_X11_50 (hP _ _ _ rfl) ?_
                    refine R_iload_n 82 rfl dX11_read_81 rfl ?_
                    refine R_iald k.toNat 83 rfl dX11_read_82 rfl (by first | rfl | omega) (by omega) (by decide) ?_
                    rw [gk]
                    refine R_iload_n 84 rfl dX11_read_83 rfl ?_
                    refine R_icmp_eq 87 91 rfl rfl dX11_read_84 (by first | assumption | exact ⟨by omega, by omega⟩) (by first | assumption | exact ⟨by omega, by omega⟩) (fun h84 => ?_) (fun h84 => ?_)
                    · exfalso; omega
                    · refine R_iconst 88 rfl dX11_read_87 ?_
                      refine R_goto 118 rfl dX11_read_88 ?_
                      refine R_istore [_, _, _, _, _, _, _, _, _] 120 rfl dX11_read_118 rfl (by decide) ?_
                      refine R_iload 122 rfl dX11_read_120 rfl ?_
                      refine R_if_ne 125 220 rfl rfl dX11_read_122 (by first | assumption | exact ⟨by omega, by omega⟩) (fun h122 => ?_) (fun h122 => ?_)
                      rotate_left
                      · exact absurd h122 (by omega)
                      refine R_iinc [_, _, _, _, _, _, _, _, _] 223 rfl dX11_read_220 rfl rfl (by decide) ?_
                      refine R_goto 48 rfl dX11_read_223 ?_
                      refine R_iload 50 rfl dX11_read_48 rfl ?_
                      refine R_iconst 51 rfl dX11_read_50 ?_
                      refine R_iload 53 rfl dX11_read_51 rfl ?_
                      refine R_imul 54 rfl dX11_read_53 ?_
                      refine R_icmp_ge 57 226 rfl rfl dX11_read_54 (by first | assumption | exact ⟨by omega, by omega⟩) (by first | assumption | exact ⟨by omega, by omega⟩) (fun h54 => ?_) (fun h54 => ?_)
                      · first | exact Lx (by rw [z0.1]; rfl) _ _ _ _ z0.2.symm z0.1.symm | (exfalso; omega)
                      · refine R_iload 59 rfl dX11_read_57 rfl ?_
                        refine R_if_ne 62 226 rfl rfl dX11_read_59 (by first | assumption | exact ⟨by omega, by omega⟩) (fun h59 => ?_) (fun h59 => ?_)
                        rotate_left
                        · exact absurd h59 (by omega)
                        first | exact Lx (by rw [z0.1]; rfl) _ _ _ _ z0.2.symm z0.1.symm | (exfalso; omega)
                  · exfalso; omega
              · refine R_iconst 38 rfl dX11_read_37 ?_
                refine R_ireturn dX11_read_38 rfl ?_
                exfalso; omega
  · have kd : ¬ rdOk k l n = true := fun q => hok (rdOk_iff.mp q)
    have hc : ¬ rdGo L B S k l f n = true := fun q => by unfold rdGo at q; simp only [Bool.and_eq_true] at q; exact kd q.1
    rw [if_neg hc, if_neg hc]
    refine R_iload_n 1 rfl dX11_read_0 rfl ?_
    refine R_i2l 2 rfl dX11_read_1 (by first | assumption | exact ⟨by omega, by omega⟩) ?_
    refine R_lconst 3 rfl dX11_read_2 ?_
    refine R_topL (b := 0) rfl ?_
    refine R_ldc2 (3) 6 rfl dX11_read_3 kl_X11_225 (by decide) ?_
    refine R_callS_i (M' := mX11_in) 9 rfl dX11_read_6 ml_X11_63 kmX11_in st_X11_in (c_X11_in _ _ _ (by first | assumption | exact ⟨by omega, by omega⟩ | exact rg_L (by assumption)) (by first | assumption | exact ⟨by omega, by omega⟩ | exact rg_L (by assumption)) (by first | assumption | exact ⟨by omega, by omega⟩ | exact rg_L (by assumption))) rfl rfl ⟨Nat.le_of_ble_eq_true rfl, Nat.le_of_ble_eq_true rfl⟩ (Nat.le_of_ble_eq_true rfl) ⟨Nat.le_of_ble_eq_true rfl, Nat.le_of_ble_eq_true rfl⟩ ?_
    refine R_ifp_eq 12 37 rfl rfl dX11_read_9 (fun h9 => ?_) (fun h9 => ?_)
    · refine R_iconst 38 rfl dX11_read_37 ?_
      refine R_ireturn dX11_read_38 rfl ?_
      exact QI_mk ⟨by unfold a_read; rw [if_neg kd], Fl.rf, hR, hX⟩
    · refine R_iload_n 13 rfl dX11_read_12 rfl ?_
      refine R_i2l 14 rfl dX11_read_13 (by first | assumption | exact ⟨by omega, by omega⟩) ?_
      refine R_lconst 15 rfl dX11_read_14 ?_
      refine R_topL (b := 0) rfl ?_
      refine R_ldc2 (2) 18 rfl dX11_read_15 kl_X11_202 (by decide) ?_
      refine R_callS_i (M' := mX11_in) 21 rfl dX11_read_18 ml_X11_63 kmX11_in st_X11_in (c_X11_in _ _ _ (by first | assumption | exact ⟨by omega, by omega⟩ | exact rg_L (by assumption)) (by first | assumption | exact ⟨by omega, by omega⟩ | exact rg_L (by assumption)) (by first | assumption | exact ⟨by omega, by omega⟩ | exact rg_L (by assumption))) rfl rfl ⟨Nat.le_of_ble_eq_true rfl, Nat.le_of_ble_eq_true rfl⟩ (Nat.le_of_ble_eq_true rfl) ⟨Nat.le_of_ble_eq_true rfl, Nat.le_of_ble_eq_true rfl⟩ ?_
      refine R_ifp_eq 24 37 rfl rfl dX11_read_21 (fun h21 => ?_) (fun h21 => ?_)
      · refine R_iconst 38 rfl dX11_read_37 ?_
        refine R_ireturn dX11_read_38 rfl ?_
        exact QI_mk ⟨by unfold a_read; rw [if_neg kd], Fl.rf, hR, hX⟩
      · refine R_iload 26 rfl dX11_read_24 rfl ?_
        refine R_i2l 27 rfl dX11_read_26 (by first | assumption | exact ⟨by omega, by omega⟩) ?_
        refine R_lconst 28 rfl dX11_read_27 ?_
        refine R_topL (b := 0) rfl ?_
        refine R_ldc2 (12) 31 rfl dX11_read_28 kl_X11_328 (by decide) ?_
        refine R_callS_i (M' := mX11_in) 34 rfl dX11_read_31 ml_X11_63 kmX11_in st_X11_in (c_X11_in _ _ _ (by first | assumption | exact ⟨by omega, by omega⟩ | exact rg_L (by assumption)) (by first | assumption | exact ⟨by omega, by omega⟩ | exact rg_L (by assumption)) (by first | assumption | exact ⟨by omega, by omega⟩ | exact rg_L (by assumption))) rfl rfl ⟨Nat.le_of_ble_eq_true rfl, Nat.le_of_ble_eq_true rfl⟩ (Nat.le_of_ble_eq_true rfl) ⟨Nat.le_of_ble_eq_true rfl, Nat.le_of_ble_eq_true rfl⟩ ?_
        refine R_ifp_ne 37 39 rfl rfl dX11_read_34 (fun h34 => ?_) (fun h34 => ?_)
        · exfalso; omega
        · refine R_iconst 38 rfl dX11_read_37 ?_
          refine R_ireturn dX11_read_38 rfl ?_
          exact QI_mk ⟨by unfold a_read; rw [if_neg kd], Fl.rf, hR, hX⟩
end
