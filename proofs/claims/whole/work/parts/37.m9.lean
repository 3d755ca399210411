/-! THE MODEL's undo, keep, again -/
section M9
variable {G : Gm} {l : Launch} {μ : Mem} {σ : GS}
theorem ct_X8_undo (h : MI μ σ) (w : WF σ) : Ct G l 1 yX8_undo cX8_undo 2 (some .int) [.ref (G.2.2.1 125)] μ (fun r μ' => r = some (.int (fUndo σ).1) ∧ MI μ' (fUndo σ).2 ∧ SmM μ μ') := by
  obtain ⟨o1, o2, o3, o4, o5, o6⟩ := id w.1.1
  have hA := h.2.2.2.1
  refine Ct.of 1 (by decide +kernel) rfl (Nat.le_of_ble_eq_true rfl) ?_
  show V G l RX8 cX8_undo 2 _ false _ _ 0 [some (.ref _), none] [] _
  refine R_aload_n (n := 1) dX8_undo_0 rfl rfl ?_
  refine ge_X8_86 (n := 4) dX8_undo_1 rfl (hA.2.1) ?_
  rw [fUndo]
  cases ha : gA σ with
  | zero =>
    refine R_if_ne_f (n := 7) dX8_undo_4 rfl rfl (by decide) ?_
    refine R_bipush (v := -3) (n := 9) dX8_undo_7 rfl rfl ?_
    refine R_iret dX8_undo_9 rfl (rfl) (⟨rfl, h, SmM.rf _⟩)
  | succ a =>
    rw [ha] at hA
    obtain ⟨a1, a2, nx, a3, a4, a5⟩ := hA
    refine R_if_ne_t (tgt := 10) dX8_undo_4 rfl (nI_ne0 (by omega) (by omega)) ?_
    refine R_aload_n (n := 11) dX8_undo_10 rfl rfl ?_
    refine R_dup (n := 12) dX8_undo_11 rfl rfl ?_
    refine ge_X8_86 (n := 15) dX8_undo_12 rfl (a2) ?_
    refine R_iconst (v := nI 1) (n := 16) dX8_undo_15 rfl rfl ?_
    refine R_isub_n (n := 17) dX8_undo_16 ((by omega)) rfl ?_
    refine pf_X8_86 (n := 20) dX8_undo_17 rfl ?_
    refine R_aload_n (n := 21) dX8_undo_20 rfl rfl ?_
    refine R_aload_n (n := 22) dX8_undo_21 rfl rfl ?_
    refine ge_X8_111 (n := 25) dX8_undo_22 rfl (by first | exact a4 | (rw [sti_1_pf _ _ _ _ _ _ (by omega)]; exact a4) | (rw [sti_1_pf _ _ _ _ _ _ (by omega), sti_1_pf _ _ _ _ _ _ (by omega)]; exact a4) | (rw [sti_1_pf _ _ _ _ _ _ (by omega), sti_1_pf _ _ _ _ _ _ (by omega), sti_1_pf _ _ _ _ _ _ (by omega)]; exact a4) | (rw [sti_1_pf _ _ _ _ _ _ (by omega), sti_1_pf _ _ _ _ _ _ (by omega), sti_1_pf _ _ _ _ _ _ (by omega), sti_1_pf _ _ _ _ _ _ (by omega)]; exact a4) | (rw [sti_1_pf _ _ _ _ _ _ (by omega), sti_1_pf _ _ _ _ _ _ (by omega), sti_1_pf _ _ _ _ _ _ (by omega), sti_1_pf _ _ _ _ _ _ (by omega), sti_1_pf _ _ _ _ _ _ (by omega)]; exact a4)) ?_
    refine R_bipush (v := nI 13) (n := 27) dX8_undo_25 rfl rfl ?_
    refine R_iadd_n (n := 28) dX8_undo_27 rfl ?_
    refine R_bipush (v := nI 14) (n := 30) dX8_undo_28 rfl rfl ?_
    refine R_irem_n (n := 31) dX8_undo_30 (by omega) (by omega) (by omega) rfl ?_
    refine pf_X8_111 (n := 34) dX8_undo_31 rfl ?_
    refine R_iconst (v := nI 0) (n := 35) dX8_undo_34 rfl rfl ?_
    refine R_istore_n (n := 36) dX8_undo_35 rfl (Nat.le_of_ble_eq_true rfl) (Nat.le_of_ble_eq_true rfl) ?_
    have l1 : (sti (sti μ 125 14 (nI (a + 1 - 1))) 125 15 (nI ((nx + 13) % 14))).1 125 15 = nI ((nx + 13) % 14) := by rw [sti_1_eq]
    have l2 : (sti (sti μ 125 14 (nI (a + 1 - 1))) 125 15 (nI ((nx + 13) % 14))).1 125 14 = nI a := by rw [sti_1_pf _ _ _ _ _ _ (by omega), sti_1_eq]; rfl
    have s1 : Sme (fun i j => i = 125 ∧ (j = 14 ∨ j = 15)) μ (sti (sti μ 125 14 (nI (a + 1 - 1))) 125 15 (nI ((nx + 13) % 14))) := ((Sme.rf _ _).sti (by omega)).sti (by omega)
    generalize sti (sti μ 125 14 (nI (a + 1 - 1))) 125 15 (nI ((nx + 13) % 14)) = μ1 at *
    refine down (z := 54) (P := fun k => ∀ μ2 : Mem, (∀ j, j < k → μ2.1 128 j = μ1.1 133 (54 * ((nx + 13) % 14) + j)) → Sme (fun i j => i = 128 ∧ j < 54) μ1 μ2 → V G l RX8 cX8_undo 2 1 false (some .int) (fun r μ' => r = some (.int (nI a)) ∧ MI μ' (mkG (gC σ) (gH' σ 0) (fun i => gH' σ (i + 1)) a (gK σ) (gT σ) (gL σ) (gZ σ)) ∧ SmM μ μ') 36 [some (.ref _), some (.int (nI k))] [] μ2) ?_ ?_ 0 (Nat.zero_le _) μ1 (fun j hj => absurd hj (by omega)) (Sme.rf _ _)
    · intro μ2 b1 b2
      have k2 : μ2.1 125 14 = nI a := (b2.1 _ _ (by omega)).trans l2
      refine R_iload_n (n := 37) dX8_undo_36 rfl rfl ?_
      refine R_bipush (v := nI 54) (n := 39) dX8_undo_37 rfl rfl ?_
      refine R_icmp_ge_t (tgt := 68) dX8_undo_39 rfl (by rw [nI_leI (by omega) (by omega)]; omega) ?_
      refine R_aload_n (n := 69) dX8_undo_68 rfl rfl ?_
      refine ge_X8_86 (n := 72) dX8_undo_69 rfl (k2) ?_
      have hC : (gC σ).1 ≤ 6 ∧ (gC σ).2.1 ≤ 5 := ⟨o1, o2⟩
      have z2 : Sme (fun i j => (i = 125 ∧ (j = 14 ∨ j = 15)) ∨ (i = 128 ∧ j < 54)) μ μ2 := (s1.mono (fun i j z => Or.inl z)).tr (b2.mono (fun i j z => Or.inr z))
      refine R_iret dX8_undo_72 rfl rfl ⟨rfl, ⟨h.1.kept z2 (by omega) (fun k => by omega), h.2.1.kept z2 (by omega) (by omega) (fun j => by omega) (fun j => by omega), ?_, ⟨by show a ≤ 14; omega, k2, (nx + 13) % 14, by omega, (b2.1 _ _ (by omega)).trans l1, fun i hi => ?_⟩, h.2.2.2.2.1.kept hC z2 (fun j => by omega) (fun j => by omega), by rw [z2.2]; exact h.2.2.2.2.2⟩, z2.M (fun i j z => by omega)⟩
      · have h0 := a5 0 (by omega)
        rw [show (nx + 13 - 0) % 14 = (nx + 13) % 14 by omega] at h0
        exact mst_cpy h0 ⟨o1, o2, o1⟩ (fun k hk => by rw [Nat.zero_add, b1 k hk, s1.1 _ _ (by omega)])
      · have hi2 : i < a := hi
        have h1 := a5 (i + 1) (by omega)
        rw [show (nx + 13 - (i + 1)) % 14 = ((nx + 13) % 14 + 13 - i) % 14 by omega] at h1
        exact h1.kept ⟨o1, o2, o1⟩ z2 (fun j z1 z2 => by omega)
    · intro k hk ih μ2 b1 b2
      have k1 : μ2.1 125 15 = nI ((nx + 13) % 14) := (b2.1 _ _ (by omega)).trans l1
      refine R_iload_n (n := 37) dX8_undo_36 rfl rfl ?_
      refine R_bipush (v := nI 54) (n := 39) dX8_undo_37 rfl rfl ?_
      refine R_icmp_ge_f (n := 42) dX8_undo_39 rfl rfl (by rw [nI_leI (by omega) (by omega)]; omega) ?_
      refine R_aload_n (n := 43) dX8_undo_42 rfl rfl ?_
      refine gf_X8_16 (n := 46) dX8_undo_43 rfl ?_
      refine R_iload_n (n := 47) dX8_undo_46 rfl rfl ?_
      refine R_aload_n (n := 48) dX8_undo_47 rfl rfl ?_
      refine gf_X8_31 (n := 51) dX8_undo_48 rfl ?_
      refine R_bipush (v := nI 54) (n := 53) dX8_undo_51 rfl rfl ?_
      refine R_aload_n (n := 54) dX8_undo_53 rfl rfl ?_
      refine ge_X8_111 (n := 57) dX8_undo_54 rfl (k1) ?_
      refine R_imul_n (n := 58) dX8_undo_57 rfl ?_
      refine R_iload_n (n := 59) dX8_undo_58 rfl rfl ?_
      refine R_iadd_n (n := 60) dX8_undo_59 rfl ?_
      refine R_iald (n := 61) sh_133 (rfl) (by omega) dX8_undo_60 rfl ?_
      refine R_iast (n := 62) sh_128 (rfl) (by omega) dX8_undo_61 rfl ?_
      refine R_iinc (n := 65) dX8_undo_62 rfl rfl (nI_1 _) (Nat.le_of_ble_eq_true rfl) ?_
      refine R_goto (tgt := 36) dX8_undo_65 rfl ?_
      refine ih _ (fun j hj => ?_) (b2.sti (by omega))
      rw [sti_1]
      by_cases e : j = k
      · rw [if_pos ⟨rfl, e⟩, b2.1 _ _ (by omega), e]
      · rw [if_neg (by omega)]; exact b1 j (by omega)
theorem ct_X8_keep (h : MI μ σ) (w : WF σ) (x : Int32) : Ct G l 2 yX8_keep cX8_keep 3 (some .int) [.ref (G.2.2.1 125), .int x] μ (fun r μ' => r = some (.int (fKeep σ x).1) ∧ MI μ' (fKeep σ x).2 ∧ SmM μ μ') := by
  obtain ⟨o1, o2, o3, o4, o5, o6⟩ := id w.1.1
  have hC : (gC σ).1 ≤ 6 ∧ (gC σ).2.1 ≤ 5 := ⟨o1, o2⟩
  refine Ct.of 1 (by decide +kernel) rfl (Nat.le_of_ble_eq_true rfl) ?_
  show V G l RX8 cX8_keep 3 _ false _ _ 0 [some (.ref _), some (.int _), none] [] _
  refine R_iload_n (n := 1) dX8_keep_0 rfl rfl ?_
  refine R_i2l (n := 2) dX8_keep_1 rfl ?_
  refine R_lconst (n := 3) dX8_keep_2 rfl rfl ?_
  refine R_lconst (n := 4) dX8_keep_3 rfl rfl ?_
  refine iv_X8_56 (n := 7) (ct_X8_in x 0 (nI 1)) (by decide) dX8_keep_4 rfl (Nat.le_of_ble_eq_true rfl) (fun r μ' hq => ?_)
  obtain ⟨rfl, hq⟩ := hq
  have hq := hq.symm
  subst hq
  rw [show inI x 0 (nI 1) = inR x 2 from inI_2]
  cases hx : inR x 2 with
  | false =>
    rw [show fKeep σ x = (-1, σ) by rw [fKeep, hx]; rfl]
    refine R_if_ne_f (n := 10) dX8_keep_7 rfl rfl (by decide) ?_
    refine R_iconst (v := -1) (n := 11) dX8_keep_10 rfl rfl ?_
    refine R_iret dX8_keep_11 rfl (rfl) (⟨rfl, h, SmM.rf _⟩)
  | true =>
    obtain ⟨hxl, hxe⟩ := inR_cl (by omega) hx
    have hF : fKeep σ x = (nI (sPsd (gS σ)), mkG (gC σ) (gS σ) (gH' σ) (gA σ) (fun i => if i = x.toNatClampNeg then some (gS σ) else gK σ i) (gT σ) (gL σ) (gZ σ)) := by rw [fKeep, hx]; rfl
    rw [hF]
    clear hF hx
    generalize x.toNatClampNeg = k at *
    subst hxe
    refine R_if_ne_t (tgt := 12) dX8_keep_7 rfl (by decide) ?_
    refine R_aload_n (n := 13) dX8_keep_12 rfl rfl ?_
    refine gf_X8_43 (n := 16) dX8_keep_13 rfl ?_
    refine R_iload_n (n := 17) dX8_keep_16 rfl rfl ?_
    refine R_iconst (v := nI 1) (n := 18) dX8_keep_17 rfl rfl ?_
    refine R_zast (n := 19) sh_137 (rfl) (by omega) dX8_keep_18 rfl ?_
    refine R_iconst (v := nI 0) (n := 20) dX8_keep_19 rfl rfl ?_
    refine R_istore_n (n := 21) dX8_keep_20 rfl (Nat.le_of_ble_eq_true rfl) (Nat.le_of_ble_eq_true rfl) ?_
    have s1 : Sme (fun i j => i = 137 ∧ j = k) μ (sti μ 137 k (vp_nar .boolean (nI 1))) := (Sme.rf _ _).sti ⟨rfl, rfl⟩
    have l1 : (sti μ 137 k (vp_nar .boolean (nI 1))).1 137 k = bi true := by rw [sti_1_eq]; rfl
    generalize sti μ 137 k (vp_nar .boolean (nI 1)) = μ1 at *
    refine down (z := 54) (P := fun q => ∀ μ2 : Mem, (∀ j, j < q → μ2.1 138 (54 * k + j) = μ1.1 128 j) → Sme (fun i j => i = 138 ∧ 54 * k ≤ j ∧ j < 54 * k + 54) μ1 μ2 → V G l RX8 cX8_keep 3 2 false (some .int) (fun r μ' => r = some (.int (nI (sPsd (gS σ)))) ∧ MI μ' (mkG (gC σ) (gS σ) (gH' σ) (gA σ) (fun i => if i = k then some (gS σ) else gK σ i) (gT σ) (gL σ) (gZ σ)) ∧ SmM μ μ') 21 [some (.ref _), some (.int (nI k)), some (.int (nI q))] [] μ2) ?_ ?_ 0 (Nat.zero_le _) μ1 (fun j hj => absurd hj (by omega)) (Sme.rf _ _)
    · intro μ2 b1 b2
      have z2 : Sme (fun i j => (i = 137 ∧ j = k) ∨ (i = 138 ∧ 54 * k ≤ j ∧ j < 54 * k + 54)) μ μ2 := (s1.mono (fun i j z => Or.inl z)).tr (b2.mono (fun i j z => Or.inr z))
      have hS2 := h.2.2.1.kept ⟨o1, o2, o1⟩ z2 (fun j z1 z2 => by omega)
      refine R_iload_n (n := 22) dX8_keep_21 rfl rfl ?_
      refine R_bipush (v := nI 54) (n := 24) dX8_keep_22 rfl rfl ?_
      refine R_icmp_ge_t (tgt := 50) dX8_keep_24 rfl (by rw [nI_leI (by omega) (by omega)]; omega) ?_
      refine R_aload_n (n := 51) dX8_keep_50 rfl rfl ?_
      refine gf_X8_16 (n := 54) dX8_keep_51 rfl ?_
      refine R_bipush (v := nI 53) (n := 56) dX8_keep_54 rfl rfl ?_
      refine R_iald_e (n := 57) sh_128 (rfl) (by omega) dX8_keep_56 rfl ((m0 hS2).2.2.2.2.2) ?_
      refine R_iret dX8_keep_57 rfl rfl ⟨rfl, ⟨h.1.kept z2 (by omega) (fun k => by omega), h.2.1.kept z2 (by omega) (by omega) (fun j => by omega) (fun j => by omega), hS2, h.2.2.2.1.kept hC z2 (by omega) (by omega) (fun j => by omega), fun s hs => ?_, by rw [z2.2]; exact h.2.2.2.2.2⟩, z2.M (fun i j z => by omega)⟩
      show μ2.1 137 s = bi (if s = k then some (gS σ) else gK σ s).isSome ∧ ∀ T, (if s = k then some (gS σ) else gK σ s) = some T → MSt μ2 138 (54 * s) (gC σ).1 (gC σ) T
      by_cases e : s = k
      · subst e
        rw [if_pos rfl]
        refine ⟨(b2.1 _ _ (by omega)).trans l1, fun T hT => ?_⟩
        cases hT
        exact mst_cpy h.2.2.1 ⟨o1, o2, o1⟩ (fun q hq => by rw [Nat.zero_add, b1 q hq, s1.1 _ _ (by omega)])
      · rw [if_neg e]
        have := h.2.2.2.2.1 s hs
        exact ⟨(z2.1 _ _ (by omega)).trans this.1, fun T hT => (this.2 T hT).kept ⟨o1, o2, o1⟩ z2 (fun j z1 z2 => by omega)⟩
    · intro q hq ih μ2 b1 b2
      refine R_iload_n (n := 22) dX8_keep_21 rfl rfl ?_
      refine R_bipush (v := nI 54) (n := 24) dX8_keep_22 rfl rfl ?_
      refine R_icmp_ge_f (n := 27) dX8_keep_24 rfl rfl (by rw [nI_leI (by omega) (by omega)]; omega) ?_
      refine R_aload_n (n := 28) dX8_keep_27 rfl rfl ?_
      refine gf_X8_47 (n := 31) dX8_keep_28 rfl ?_
      refine R_bipush (v := nI 54) (n := 33) dX8_keep_31 rfl rfl ?_
      refine R_iload_n (n := 34) dX8_keep_33 rfl rfl ?_
      refine R_imul_n (n := 35) dX8_keep_34 rfl ?_
      refine R_iload_n (n := 36) dX8_keep_35 rfl rfl ?_
      refine R_iadd_n (n := 37) dX8_keep_36 rfl ?_
      refine R_aload_n (n := 38) dX8_keep_37 rfl rfl ?_
      refine gf_X8_16 (n := 41) dX8_keep_38 rfl ?_
      refine R_iload_n (n := 42) dX8_keep_41 rfl rfl ?_
      refine R_iald (n := 43) sh_128 (rfl) (by omega) dX8_keep_42 rfl ?_
      refine R_iast (n := 44) sh_138 (rfl) (by omega) dX8_keep_43 rfl ?_
      refine R_iinc (n := 47) dX8_keep_44 rfl rfl (nI_1 _) (Nat.le_of_ble_eq_true rfl) ?_
      refine R_goto (tgt := 21) dX8_keep_47 rfl ?_
      refine ih _ (fun j hj => ?_) (b2.sti (by omega))
      rw [sti_1]
      by_cases e : j = q
      · rw [if_pos ⟨rfl, by omega⟩, b2.1 _ _ (by omega), e]
      · rw [if_neg (by omega)]; exact b1 j (by omega)
theorem ct_X8_again (h : MI μ σ) (w : WF σ) (x : Int32) : Ct G l 2 yX8_again cX8_again 3 (some .int) [.ref (G.2.2.1 125), .int x] μ (fun r μ' => r = some (.int (fAgain σ x).1) ∧ MI μ' (fAgain σ x).2 ∧ SmM μ μ') := by
  obtain ⟨o1, o2, o3, o4, o5, o6⟩ := id w.1.1
  have hC : (gC σ).1 ≤ 6 ∧ (gC σ).2.1 ≤ 5 := ⟨o1, o2⟩
  refine Ct.of 1 (by decide +kernel) rfl (Nat.le_of_ble_eq_true rfl) ?_
  show V G l RX8 cX8_again 3 _ false _ _ 0 [some (.ref _), some (.int _), none] [] _
  refine R_iload_n (n := 1) dX8_again_0 rfl rfl ?_
  refine R_i2l (n := 2) dX8_again_1 rfl ?_
  refine R_lconst (n := 3) dX8_again_2 rfl rfl ?_
  refine R_lconst (n := 4) dX8_again_3 rfl rfl ?_
  refine iv_X8_56 (n := 7) (ct_X8_in x 0 (nI 1)) (by decide) dX8_again_4 rfl (Nat.le_of_ble_eq_true rfl) (fun r μ' hq => ?_)
  obtain ⟨rfl, hq⟩ := hq
  have hq := hq.symm
  subst hq
  rw [show inI x 0 (nI 1) = inR x 2 from inI_2]
  cases hx : inR x 2 with
  | false =>
    rw [show fAgain σ x = (-1, σ) by rw [fAgain, hx]; rfl]
    refine R_if_ne_f (n := 10) dX8_again_7 rfl rfl (by decide) ?_
    refine R_iconst (v := -1) (n := 11) dX8_again_10 rfl rfl ?_
    refine R_iret dX8_again_11 rfl (rfl) (⟨rfl, h, SmM.rf _⟩)
  | true =>
    obtain ⟨hxl, hxe⟩ := inR_cl (by omega) hx
    have hF : fAgain σ x = match gK σ x.toNatClampNeg with
        | none => (-3, σ)
        | some T => (nI (sPsd T), mkG (gC σ) T (gH' σ) 0 (gK σ) (gT σ) (gL σ) (gZ σ)) := by rw [fAgain, hx]; rfl
    rw [hF]
    clear hF hx
    generalize x.toNatClampNeg = k at *
    subst hxe
    have hk := h.2.2.2.2.1 k hxl
    refine R_if_ne_t (tgt := 12) dX8_again_7 rfl (by decide) ?_
    refine R_aload_n (n := 13) dX8_again_12 rfl rfl ?_
    refine gf_X8_43 (n := 16) dX8_again_13 rfl ?_
    refine R_iload_n (n := 17) dX8_again_16 rfl rfl ?_
    refine R_zald_e (n := 18) sh_137 (rfl) (by omega) dX8_again_17 rfl (hk.1) ?_
    cases hT : gK σ k with
    | none =>
      refine R_if_ne_f (n := 21) dX8_again_18 rfl rfl (rfl) ?_
      refine R_bipush (v := -3) (n := 23) dX8_again_21 rfl rfl ?_
      refine R_iret dX8_again_23 rfl (rfl) (⟨rfl, h, SmM.rf _⟩)
    | some T =>
      refine R_if_ne_t (tgt := 24) dX8_again_18 rfl (by show ¬ bi true = 0; decide) ?_
      refine R_iconst (v := nI 0) (n := 25) dX8_again_24 rfl rfl ?_
      refine R_istore_n (n := 26) dX8_again_25 rfl (Nat.le_of_ble_eq_true rfl) (Nat.le_of_ble_eq_true rfl) ?_
      refine down (z := 54) (P := fun q => ∀ μ2 : Mem, (∀ j, j < q → μ2.1 128 j = μ.1 138 (54 * k + j)) → Sme (fun i j => i = 128 ∧ j < 54) μ μ2 → V G l RX8 cX8_again 3 2 false (some .int) (fun r μ' => r = some (.int (nI (sPsd T))) ∧ MI μ' (mkG (gC σ) T (gH' σ) 0 (gK σ) (gT σ) (gL σ) (gZ σ)) ∧ SmM μ μ') 26 [some (.ref _), some (.int (nI k)), some (.int (nI q))] [] μ2) ?_ ?_ 0 (Nat.zero_le _) μ (fun j hj => absurd hj (by omega)) (Sme.rf _ _)
      · intro μ2 b1 b2
        have z2 : Sme (fun i j => (i = 128 ∧ j < 54) ∨ (i = 125 ∧ j = 14)) μ (sti μ2 125 14 (nI 0)) := (b2.mono (P' := fun i j => (i = 128 ∧ j < 54) ∨ (i = 125 ∧ j = 14)) (fun i j z => Or.inl z)).sti (by omega)
        have hS2 : MSt (sti μ2 125 14 (nI 0)) 128 0 (gC σ).1 (gC σ) T := mst_cpy (hk.2 T hT) ⟨o1, o2, o1⟩ (fun q hq => by rw [Nat.zero_add, sti_1_ne _ _ _ (by omega), b1 q hq])
        refine R_iload_n (n := 27) dX8_again_26 rfl rfl ?_
        refine R_bipush (v := nI 54) (n := 29) dX8_again_27 rfl rfl ?_
        refine R_icmp_ge_t (tgt := 55) dX8_again_29 rfl (by rw [nI_leI (by omega) (by omega)]; omega) ?_
        refine R_aload_n (n := 56) dX8_again_55 rfl rfl ?_
        refine R_iconst (v := nI 0) (n := 57) dX8_again_56 rfl rfl ?_
        refine pf_X8_86 (n := 60) dX8_again_57 rfl ?_
        refine R_aload_n (n := 61) dX8_again_60 rfl rfl ?_
        refine gf_X8_16 (n := 64) dX8_again_61 rfl ?_
        refine R_bipush (v := nI 53) (n := 66) dX8_again_64 rfl rfl ?_
        refine R_iald_e (n := 67) sh_128 (rfl) (by omega) dX8_again_66 rfl ((m0 hS2).2.2.2.2.2) ?_
        obtain ⟨a1, a2, nx, a3, a4, a5⟩ := h.2.2.2.1
        refine R_iret dX8_again_67 rfl rfl ⟨rfl, ⟨h.1.kept z2 (by omega) (fun k => by omega), h.2.1.kept z2 (by omega) (by omega) (fun j => by omega) (fun j => by omega), hS2, ⟨by show 0 ≤ 14; omega, by rw [sti_1_eq]; rfl, nx, a3, (z2.1 _ _ (by omega)).trans a4, fun i hi => absurd hi (by show ¬ i < 0; omega)⟩, h.2.2.2.2.1.kept hC z2 (fun j => by omega) (fun j => by omega), by rw [z2.2]; exact h.2.2.2.2.2⟩, z2.M (fun i j z => by omega)⟩
      · intro q hq ih μ2 b1 b2
        refine R_iload_n (n := 27) dX8_again_26 rfl rfl ?_
        refine R_bipush (v := nI 54) (n := 29) dX8_again_27 rfl rfl ?_
        refine R_icmp_ge_f (n := 32) dX8_again_29 rfl rfl (by rw [nI_leI (by omega) (by omega)]; omega) ?_
        refine R_aload_n (n := 33) dX8_again_32 rfl rfl ?_
        refine gf_X8_16 (n := 36) dX8_again_33 rfl ?_
        refine R_iload_n (n := 37) dX8_again_36 rfl rfl ?_
        refine R_aload_n (n := 38) dX8_again_37 rfl rfl ?_
        refine gf_X8_47 (n := 41) dX8_again_38 rfl ?_
        refine R_bipush (v := nI 54) (n := 43) dX8_again_41 rfl rfl ?_
        refine R_iload_n (n := 44) dX8_again_43 rfl rfl ?_
        refine R_imul_n (n := 45) dX8_again_44 rfl ?_
        refine R_iload_n (n := 46) dX8_again_45 rfl rfl ?_
        refine R_iadd_n (n := 47) dX8_again_46 rfl ?_
        refine R_iald (n := 48) sh_138 (rfl) (by omega) dX8_again_47 rfl ?_
        refine R_iast (n := 49) sh_128 (rfl) (by omega) dX8_again_48 rfl ?_
        refine R_iinc (n := 52) dX8_again_49 rfl rfl (nI_1 _) (Nat.le_of_ble_eq_true rfl) ?_
        refine R_goto (tgt := 26) dX8_again_52 rfl ?_
        refine ih _ (fun j hj => ?_) (b2.sti (by omega))
        rw [sti_1]
        by_cases e : j = q
        · rw [if_pos ⟨rfl, by omega⟩, b2.1 _ _ (by omega), e]
        · rw [if_neg (by omega)]; exact b1 j (by omega)
end M9

