/-! THE MODEL's judge, rests -/
section M11
variable {G : Gm} {l : Launch} {μ : Mem} {σ : GS}
theorem ct_X8_judge (h : MI μ σ) (w : WF σ) (x y : Int32) : Ct G l 5 yX8_judge cX8_judge 5 (some .int) [.ref (G.2.2.1 125), .int x, .int y] μ (fun r μ' => r = some (.int (aJudge σ x y)) ∧ Sme Qrm μ μ') := by
  obtain ⟨o1, o2, o3, o4, o5, o6⟩ := id w.1.1
  have hOb := ok_gos ((gC σ).2.1 - sPsd (gS σ)) (gS σ) w.1.1 (by omega)
  refine Ct.of 2 (by decide +kernel) rfl (Nat.le_of_ble_eq_true rfl) ?_
  show V G l RX8 cX8_judge 5 _ false _ _ 0 [some (.ref _), some (.int _), some (.int _), none, none] [] _
  refine R_iload_n (n := 1) dX8_judge_0 rfl rfl ?_
  refine R_i2l (n := 2) dX8_judge_1 rfl ?_
  refine R_lconst (n := 3) dX8_judge_2 rfl rfl ?_
  refine R_ldc2 (n := 6) dX8_judge_3 tK_RX8_152 rfl ?_
  refine iv_X8_56 (n := 9) (ct_X8_in x (nI 1) (nI 6)) (by decide) dX8_judge_6 rfl (Nat.le_of_ble_eq_true rfl) (fun r μ' hq => ?_)
  obtain ⟨rfl, hq⟩ := hq
  have hq := hq.symm
  subst hq
  cases hx : inI x (nI 1) (nI 6) with
  | false =>
    rw [show aJudge σ x y = -2 by rw [aJudge, if_pos ((inI_b.mp hx).elim Or.inl (fun z => Or.inr (Or.inl z)))]]
    refine R_if_eq_t (tgt := 28) dX8_judge_9 rfl (by decide) ?_
    refine R_bipush (v := -2) (n := 30) dX8_judge_28 rfl rfl ?_
    refine R_iret dX8_judge_30 rfl (rfl) (⟨rfl, Sme.rf _ _⟩)
  | true =>
    have hx2 : ¬ (x < nI 1 ∨ nI 6 < x) := fun z => by rw [inI_b.mpr z] at hx; cases hx
    obtain ⟨n, hn, rfl⟩ := nI_of (x := x) (fun z => hx2 (Or.inl (Int32.lt_trans z (by decide))))
    have n1 : ¬ nI n < nI 1 := fun z => hx2 (Or.inl z)
    have n2 : ¬ nI 6 < nI n := fun z => hx2 (Or.inr z)
    have n3 : 1 ≤ n ∧ n ≤ 6 := by
      have a1 := n1
      have a2 := n2
      rw [nI_ltI (by omega) (by omega)] at a1 a2
      omega
    have pw1 : 0 < 10 ^ n := Nat.pow_pos (by decide)
    have pw2 : 10 ^ n ≤ 10 ^ 6 := Nat.pow_le_pow_right (by decide) n3.2
    have pw3 : 10 ^ 6 = 1000000 := by decide
    refine R_if_eq_f (n := 12) dX8_judge_9 rfl rfl (by decide) ?_
    refine R_iload_n (n := 13) dX8_judge_12 rfl rfl ?_
    refine R_i2l (n := 14) dX8_judge_13 rfl ?_
    refine R_lconst (n := 15) dX8_judge_14 rfl rfl ?_
    refine R_iload_n (n := 16) dX8_judge_15 rfl rfl ?_
    refine iv_X8_154 (n := 19) (ct_X8_tenTo (by omega)) (by decide) dX8_judge_16 rfl (Nat.le_of_ble_eq_true rfl) (fun r μ' hq => ?_)
    obtain ⟨rfl, hq⟩ := hq
    have hq := hq.symm
    subst hq
    refine R_iconst (v := nI 1) (n := 20) dX8_judge_19 rfl rfl ?_
    refine R_isub_n (n := 21) dX8_judge_20 ((by omega)) rfl ?_
    refine R_i2l (n := 22) dX8_judge_21 rfl ?_
    refine iv_X8_56 (n := 25) (ct_X8_in y 0 (nI (10 ^ n - 1))) (by decide) dX8_judge_22 rfl (Nat.le_of_ble_eq_true rfl) (fun r μ' hq => ?_)
    obtain ⟨rfl, hq⟩ := hq
    have hq := hq.symm
    subst hq
    cases hy : inI y 0 (nI (10 ^ n - 1)) with
    | false =>
      have hJ : nI n < nI 1 ∨ nI 6 < nI n ∨ y < 0 ∨ ¬ y.toNatClampNeg / 10 ^ (nI n).toNatClampNeg = 0 := by
        rw [nI_clamp hn]
        by_cases y0 : y < 0
        · exact Or.inr (Or.inr (Or.inl y0))
        · obtain ⟨m, hm, rfl⟩ := nI_of y0
          refine Or.inr (Or.inr (Or.inr ?_))
          rw [nI_clamp hm]
          rcases inI_b.mp hy with q | q
          · exact absurd q y0
          · rw [nI_ltI (by omega) hm] at q
            have := Nat.div_pos (show 10 ^ n ≤ m by omega) pw1
            omega
      rw [aJudge, if_pos hJ]
      refine R_if_ne_f (n := 28) dX8_judge_25 rfl rfl (by decide) ?_
      refine R_bipush (v := -2) (n := 30) dX8_judge_28 rfl rfl ?_
      refine R_iret dX8_judge_30 rfl (rfl) (⟨rfl, Sme.rf _ _⟩)
    | true =>
      have hy2 : ¬ (y < 0 ∨ nI (10 ^ n - 1) < y) := fun z => by rw [inI_b.mpr z] at hy; cases hy
      obtain ⟨m, hm, rfl⟩ := nI_of (x := y) (fun z => hy2 (Or.inl z))
      have hmn : m < 10 ^ n := by
        have q : ¬ nI (10 ^ n - 1) < nI m := fun z => hy2 (Or.inr z)
        rw [nI_ltI (by omega) hm] at q
        omega
      rw [aJudge, nI_clamp hm, nI_clamp hn, if_neg (fun z => z.elim n1 (fun z => z.elim n2 (fun z => z.elim (fun z => hy2 (Or.inl z)) (fun z => z (Nat.div_eq_of_lt hmn)))))]
      refine R_if_ne_t (tgt := 31) dX8_judge_25 rfl (by decide) ?_
      refine R_aload_n (n := 32) dX8_judge_31 rfl rfl ?_
      refine iv_X8_133 (n := 35) (ct_X8_layBasin (h.q w)) (by decide) dX8_judge_32 rfl (Nat.le_of_ble_eq_true rfl) (fun r μ' hq => ?_)
      obtain ⟨rfl, g1, g2, g3⟩ := hq
      have hM1 := h.2.1.kept g3 (by omega) (by omega) (fun j => by omega) (fun j => by omega)
      refine R_iconst (v := nI 0) (n := 36) dX8_judge_35 rfl rfl ?_
      refine R_istore_n (n := 37) dX8_judge_36 rfl (Nat.le_of_ble_eq_true rfl) (Nat.le_of_ble_eq_true rfl) ?_
      have loop : ∀ (f p : Nat) (j4 : Option Value), p + f = n → V G l RX8 cX8_judge 5 5 false (some .int) (fun r μ' => r = some (.int (oI (srch (fun p => !decide (p < (gC σ).1 ∧ nI (sRow (gB σ) p) = nI (dgt m n p) - nI 1)) f p))) ∧ Sme Qrm μ μ') 37 [some (.ref (G.2.2.1 125)), some (.int (nI n)), some (.int (nI m)), some (.int (nI p)), j4] [] μ' := by
        intro f
        induction f with
        | zero =>
          intro p j4 hp
          refine R_iload_n (n := 38) dX8_judge_37 rfl rfl ?_
          refine R_iload_n (n := 39) dX8_judge_38 rfl rfl ?_
          refine R_icmp_ge_t (tgt := 98) dX8_judge_39 rfl (by rw [nI_leI (by omega) (by omega)]; omega) ?_
          refine R_bipush (v := -9) (n := 100) dX8_judge_98 rfl rfl ?_
          refine R_iret dX8_judge_100 rfl (rfl) (⟨rfl, g3.qm⟩)
        | succ f ih =>
          intro p j4 hp
          have pp1 : 0 < 10 ^ (n - 1 - p) := Nat.pow_pos (by decide)
          have pp2 : 10 ^ (n - 1 - p) ≤ 10 ^ 6 := Nat.pow_le_pow_right (by decide) (by omega)
          have pp3 : m / 10 ^ (n - 1 - p) ≤ m := Nat.div_le_self _ _
          refine R_iload_n (n := 38) dX8_judge_37 rfl rfl ?_
          refine R_iload_n (n := 39) dX8_judge_38 rfl rfl ?_
          refine R_icmp_ge_f (n := 42) dX8_judge_39 rfl rfl (by rw [nI_leI (by omega) (by omega)]; omega) ?_
          refine R_iload_n (n := 43) dX8_judge_42 rfl rfl ?_
          refine R_iload_n (n := 44) dX8_judge_43 rfl rfl ?_
          refine R_iconst (v := nI 1) (n := 45) dX8_judge_44 rfl rfl ?_
          refine R_isub_n (n := 46) dX8_judge_45 ((by omega)) rfl ?_
          refine R_iload_n (n := 47) dX8_judge_46 rfl rfl ?_
          refine R_isub_n (n := 48) dX8_judge_47 ((by omega)) rfl ?_
          refine iv_X8_154 (n := 51) (ct_X8_tenTo (by omega)) (by decide) dX8_judge_48 rfl (Nat.le_of_ble_eq_true rfl) (fun r μ' hq => ?_)
          obtain ⟨rfl, hq⟩ := hq
          have hq := hq.symm
          subst hq
          refine R_idiv_n (n := 52) dX8_judge_51 (by omega) (by omega) (by omega) rfl ?_
          refine R_bipush (v := nI 10) (n := 54) dX8_judge_52 rfl rfl ?_
          refine R_irem_n (n := 55) dX8_judge_54 (by omega) (by omega) (by omega) rfl ?_
          refine R_iconst (v := nI 1) (n := 56) dX8_judge_55 rfl rfl ?_
          refine R_isub (n := 57) dX8_judge_56 rfl ?_
          refine R_istore (n := 59) dX8_judge_57 rfl (Nat.le_of_ble_eq_true rfl) (Nat.le_of_ble_eq_true rfl) ?_
          refine R_aload_n (n := 60) dX8_judge_59 rfl rfl ?_
          refine R_iload (n := 62) dX8_judge_60 rfl rfl ?_
          refine iv_X8_89 (n := 65) (ct_X8_isBarge _ hM1.2.1 (by omega)) (by decide) dX8_judge_62 rfl (Nat.le_of_ble_eq_true rfl) (fun r μ' hq => ?_)
          obtain ⟨rfl, hq⟩ := hq
          have hq := hq.symm
          subst hq
          rw [srch]
          have hD : nI (m / 10 ^ (n - 1 - p) % 10) - nI 1 = nI (dgt m n p) - nI 1 := rfl
          cases hb : inR (nI (m / 10 ^ (n - 1 - p) % 10) - nI 1) (gC σ).1 with
          | false =>
            have hP : (!decide (p < (gC σ).1 ∧ nI (sRow (gB σ) p) = nI (dgt m n p) - nI 1)) = true := by
              rw [decide_eq_false]; rfl
              intro z
              rw [hD, ← z.2, inR_nI (by omega) (show sRow (gB σ) p < (gC σ).1 from hOb.2.2.2.1 p z.1)] at hb
              cases hb
            rw [if_pos hP]
            refine R_if_eq_t (tgt := 90) dX8_judge_65 rfl (by decide) ?_
            refine R_iload_n (n := 91) dX8_judge_90 rfl rfl ?_
            refine R_iret dX8_judge_91 rfl (rfl) (⟨rfl, g3.qm⟩)
          | true =>
            refine R_if_eq_f (n := 68) dX8_judge_65 rfl rfl (by decide) ?_
            refine R_iload_n (n := 69) dX8_judge_68 rfl rfl ?_
            refine R_aload_n (n := 70) dX8_judge_69 rfl rfl ?_
            refine ge_X8_83 (n := 73) dX8_judge_70 rfl (hM1.2.1) ?_
            by_cases e1 : p < (gC σ).1
            · refine R_icmp_ge_f (n := 76) dX8_judge_73 rfl rfl (by rw [nI_leI (by omega) (by omega)]; omega) ?_
              refine R_aload_n (n := 77) dX8_judge_76 rfl rfl ?_
              refine gf_X8_16 (n := 80) dX8_judge_77 rfl ?_
              refine R_bipush (v := nI 54) (n := 82) dX8_judge_80 rfl rfl ?_
              refine R_iload_n (n := 83) dX8_judge_82 rfl rfl ?_
              refine R_iadd_n (n := 84) dX8_judge_83 rfl ?_
              refine R_iald_e (n := 85) sh_128 (rfl) (by omega) dX8_judge_84 rfl (g1.1 p e1) ?_
              refine R_iload (n := 87) dX8_judge_85 rfl rfl ?_
              by_cases e2 : nI (sRow (gB σ) p) = nI (dgt m n p) - nI 1
              · rw [if_neg (by rw [decide_eq_true ⟨e1, e2⟩]; decide)]
                refine R_icmp_eq_t (tgt := 92) dX8_judge_87 rfl (e2) ?_
                refine R_iinc (n := 95) dX8_judge_92 rfl rfl (nI_1 _) (Nat.le_of_ble_eq_true rfl) ?_
                refine R_goto (tgt := 37) dX8_judge_95 rfl ?_
                exact ih (p + 1) _ (by omega)
              · rw [if_pos (by rw [decide_eq_false (fun z => e2 z.2)]; rfl)]
                refine R_icmp_eq_f (n := 90) dX8_judge_87 rfl rfl (e2) ?_
                refine R_iload_n (n := 91) dX8_judge_90 rfl rfl ?_
                refine R_iret dX8_judge_91 rfl (rfl) (⟨rfl, g3.qm⟩)
            · rw [if_pos (by rw [decide_eq_false (fun z => e1 z.1)]; rfl)]
              refine R_icmp_ge_t (tgt := 90) dX8_judge_73 rfl (by rw [nI_leI (by omega) (by omega)]; omega) ?_
              refine R_iload_n (n := 91) dX8_judge_90 rfl rfl ?_
              refine R_iret dX8_judge_91 rfl (rfl) (⟨rfl, g3.qm⟩)
      exact loop n 0 _ (by omega)
theorem ct_X8_rests (h : MI μ σ) (w : WF σ) (x y z v : Int32) : Ct G l 5 yX8_rests cX8_rests 8 (some .int) [.ref (G.2.2.1 125), .int x, .int y, .int z, .int v] μ (fun r μ' => r = some (.int (aRests σ x y z v)) ∧ Sme Qrm μ μ') := by
  obtain ⟨o1, o2, o3, o4, o5, o6⟩ := id w.1.1
  obtain ⟨m1, m2, m3, m4, m5, m6⟩ := m0 h.2.2.1
  refine Ct.of 3 (by decide +kernel) rfl (Nat.le_of_ble_eq_true rfl) ?_
  show V G l RX8 cX8_rests 8 _ false _ _ 0 [some (.ref _), some (.int _), some (.int _), some (.int _), some (.int _), none, none, none] [] _
  refine R_aload_n (n := 1) dX8_rests_0 rfl rfl ?_
  refine R_iload_n (n := 2) dX8_rests_1 rfl rfl ?_
  refine iv_X8_89 (n := 5) (ct_X8_isBarge x h.2.1.2.1 (by omega)) (by decide) dX8_rests_2 rfl (Nat.le_of_ble_eq_true rfl) (fun r μ' hq => ?_)
  obtain ⟨rfl, hq⟩ := hq
  have hq := hq.symm
  subst hq
  cases hx : inR x (gC σ).1 with
  | false =>
    refine R_if_eq_t (tgt := 24) dX8_rests_5 rfl (by decide) ?_
    refine R_iconst (v := -1) (n := 25) dX8_rests_24 rfl rfl ?_
    refine R_iret dX8_rests_25 rfl (rfl) (⟨by rw [aRests, hx]; rfl, Sme.rf _ _⟩)
  | true =>
    refine R_if_eq_f (n := 8) dX8_rests_5 rfl rfl (by decide) ?_
    refine R_aload_n (n := 9) dX8_rests_8 rfl rfl ?_
    refine R_iload_n (n := 10) dX8_rests_9 rfl rfl ?_
    refine iv_X8_89 (n := 13) (ct_X8_isBarge y h.2.1.2.1 (by omega)) (by decide) dX8_rests_10 rfl (Nat.le_of_ble_eq_true rfl) (fun r μ' hq => ?_)
    obtain ⟨rfl, hq⟩ := hq
    have hq := hq.symm
    subst hq
    cases hy : inR y (gC σ).1 with
    | false =>
      refine R_if_eq_t (tgt := 24) dX8_rests_13 rfl (by decide) ?_
      refine R_iconst (v := -1) (n := 25) dX8_rests_24 rfl rfl ?_
      refine R_iret dX8_rests_25 rfl (rfl) (⟨by rw [aRests, hx, hy]; rfl, Sme.rf _ _⟩)
    | true =>
      refine R_if_eq_f (n := 16) dX8_rests_13 rfl rfl (by decide) ?_
      refine R_aload_n (n := 17) dX8_rests_16 rfl rfl ?_
      refine R_iload_n (n := 18) dX8_rests_17 rfl rfl ?_
      refine iv_X8_97 (n := 21) (ct_X8_isLock z h.2.1.1 (by omega)) (by decide) dX8_rests_18 rfl (Nat.le_of_ble_eq_true rfl) (fun r μ' hq => ?_)
      obtain ⟨rfl, hq⟩ := hq
      have hq := hq.symm
      subst hq
      cases hz : inR z (gC σ).2.1 with
      | false =>
        refine R_if_ne_f (n := 24) dX8_rests_21 rfl rfl (by decide) ?_
        refine R_iconst (v := -1) (n := 25) dX8_rests_24 rfl rfl ?_
        refine R_iret dX8_rests_25 rfl (rfl) (⟨by rw [aRests, hx, hy, hz]; rfl, Sme.rf _ _⟩)
      | true =>
        obtain ⟨hxl, hxe⟩ := inR_cl (by omega) hx
        obtain ⟨hyl, hye⟩ := inR_cl (by omega) hy
        obtain ⟨hzl, hze⟩ := inR_cl (by omega) hz
        rw [aRests, hx, hy, hz, if_pos (show (true && (true && true)) = true from rfl)]
        clear hx hy hz
        generalize x.toNatClampNeg = i at *
        generalize y.toNatClampNeg = j at *
        generalize z.toNatClampNeg = k at *
        subst hxe
        subst hye
        subst hze
        refine R_if_ne_t (tgt := 26) dX8_rests_21 rfl (by decide) ?_
        refine R_iload_n (n := 27) dX8_rests_26 rfl rfl ?_
        refine R_iload_n (n := 28) dX8_rests_27 rfl rfl ?_
        refine R_icmp_eq (n := 31) (tgt := 42) dX8_rests_28 rfl rfl (fun e1 => ?_) (fun e1 => ?_)
        · rw [if_pos (Or.inl e1)]
          refine R_bipush (v := -2) (n := 44) dX8_rests_42 rfl rfl ?_
          refine R_iret dX8_rests_44 rfl (rfl) (⟨rfl, Sme.rf _ _⟩)
        · refine R_iload (n := 33) dX8_rests_31 rfl rfl ?_
          refine R_i2l (n := 34) dX8_rests_33 rfl ?_
          refine R_lconst (n := 35) dX8_rests_34 rfl rfl ?_
          refine R_lconst (n := 36) dX8_rests_35 rfl rfl ?_
          refine iv_X8_56 (n := 39) (ct_X8_in v 0 (nI 1)) (by decide) dX8_rests_36 rfl (Nat.le_of_ble_eq_true rfl) (fun r μ' hq => ?_)
          obtain ⟨rfl, hq⟩ := hq
          have hq := hq.symm
          subst hq
          cases hv : inI v 0 (nI 1) with
          | false =>
            rw [if_pos (Or.inr (inI_b.mp hv))]
            refine R_if_ne_f (n := 42) dX8_rests_39 rfl rfl (by decide) ?_
            refine R_bipush (v := -2) (n := 44) dX8_rests_42 rfl rfl ?_
            refine R_iret dX8_rests_44 rfl (rfl) (⟨rfl, Sme.rf _ _⟩)
          | true =>
            have hv2 : ¬ (v < 0 ∨ nI 1 < v) := fun z => by rw [inI_b.mpr z] at hv; cases hv
            rw [if_neg (fun q => q.elim e1 hv2)]
            refine R_if_ne_t (tgt := 45) dX8_rests_39 rfl (by decide) ?_
            refine R_iload_n (n := 46) dX8_rests_45 rfl rfl ?_
            refine R_aload_n (n := 47) dX8_rests_46 rfl rfl ?_
            refine gf_X8_16 (n := 50) dX8_rests_47 rfl ?_
            refine R_bipush (v := nI 53) (n := 52) dX8_rests_50 rfl rfl ?_
            refine R_iald_e (n := 53) sh_128 (rfl) (by omega) dX8_rests_52 rfl (m6) ?_
            by_cases ep : k < sPsd (gS σ)
            · rw [if_pos ep]
              refine R_icmp_ge_f (n := 56) dX8_rests_53 rfl rfl (by rw [nI_leI (by omega) (by omega)]; omega) ?_
              refine R_bipush (v := -3) (n := 58) dX8_rests_56 rfl rfl ?_
              refine R_iret dX8_rests_58 rfl (rfl) (⟨rfl, Sme.rf _ _⟩)
            · rw [if_neg ep]
              refine R_icmp_ge_t (tgt := 59) dX8_rests_53 rfl (by rw [nI_leI (by omega) (by omega)]; omega) ?_
              refine R_aload_n (n := 60) dX8_rests_59 rfl rfl ?_
              refine R_iload_n (n := 61) dX8_rests_60 rfl rfl ?_
              refine R_iload_n (n := 62) dX8_rests_61 rfl rfl ?_
              refine R_iload_n (n := 63) dX8_rests_62 rfl rfl ?_
              refine iv_X8_178 (n := 66) (ct_X8_layLosses (h.q w) hxl hyl hzl) (by decide) dX8_rests_63 rfl (Nat.le_of_ble_eq_true rfl) (fun r μ' hq => ?_)
              obtain ⟨rfl, g1, g2⟩ := hq
              have hL1 : ∀ e, e < 16 → μ'.1 135 e = nI (ls1 (gC σ) (gS σ) i j k e) ∧ ls1 (gC σ) (gS σ) i j k e < 2 ^ 31 := fun e he => ⟨(g1 e he).1, ?_⟩
              have hL2 : ∀ e, e < 16 → μ'.1 136 e = nI (ls2 (gC σ) (gS σ) i j k e) ∧ ls2 (gC σ) (gS σ) i j k e < 2 ^ 31 := fun e he => ⟨(g1 e he).2, ?_⟩
              refine R_iconst (v := nI 0) (n := 67) dX8_rests_66 rfl rfl ?_
              refine R_istore (n := 69) dX8_rests_67 rfl (Nat.le_of_ble_eq_true rfl) (Nat.le_of_ble_eq_true rfl) ?_
              refine R_bipush (v := -9) (n := 71) dX8_rests_69 rfl rfl ?_
              refine R_istore (n := 73) dX8_rests_71 rfl (Nat.le_of_ble_eq_true rfl) (Nat.le_of_ble_eq_true rfl) ?_
              refine R_iconst (v := nI 0) (n := 74) dX8_rests_73 rfl rfl ?_
              refine R_istore (n := 76) dX8_rests_74 rfl (Nat.le_of_ble_eq_true rfl) (Nat.le_of_ble_eq_true rfl) ?_
              have loop : ∀ (f e : Nat) (c fr : Int32), e + f = 16 → V G l RX8 cX8_rests 8 5 false (some .int) (fun r μ' => r = some (.int (if v = 0 then (rsF (fun a b => restL (ls1 (gC σ) (gS σ) i j k) (ls2 (gC σ) (gS σ) i j k) a b 4 0) f e (c, fr)).1 else (rsF (fun a b => restL (ls1 (gC σ) (gS σ) i j k) (ls2 (gC σ) (gS σ) i j k) a b 4 0) f e (c, fr)).2)) ∧ Sme Qrm μ μ') 76 [some (.ref (G.2.2.1 125)), some (.int (nI i)), some (.int (nI j)), some (.int (nI k)), some (.int v), some (.int c), some (.int fr), some (.int (nI e))] [] μ' := by
                intro f
                induction f with
                | zero =>
                  intro e c fr he
                  refine R_iload (n := 78) dX8_rests_76 rfl rfl ?_
                  refine R_bipush (v := nI 16) (n := 80) dX8_rests_78 rfl rfl ?_
                  refine R_icmp_ge_t (tgt := 125) dX8_rests_80 rfl (by rw [nI_leI (by omega) (by omega)]; omega) ?_
                  refine R_iload (n := 127) dX8_rests_125 rfl rfl ?_
                  by_cases ev : v = 0
                  · rw [if_pos ev]
                    refine R_if_ne_f (n := 130) dX8_rests_127 rfl rfl (ev) ?_
                    refine R_iload (n := 132) dX8_rests_130 rfl rfl ?_
                    refine R_goto (tgt := 137) dX8_rests_132 rfl ?_
                    refine R_iret dX8_rests_137 rfl (rfl) (⟨rfl, g2⟩)
                  · rw [if_neg ev]
                    refine R_if_ne_t (tgt := 135) dX8_rests_127 rfl (ev) ?_
                    refine R_iload (n := 137) dX8_rests_135 rfl rfl ?_
                    refine R_iret dX8_rests_137 rfl (rfl) (⟨rfl, g2⟩)
                | succ f ih =>
                  intro e c fr he
                  refine R_iload (n := 78) dX8_rests_76 rfl rfl ?_
                  refine R_bipush (v := nI 16) (n := 80) dX8_rests_78 rfl rfl ?_
                  refine R_icmp_ge_f (n := 83) dX8_rests_80 rfl rfl (by rw [nI_leI (by omega) (by omega)]; omega) ?_
                  refine R_aload_n (n := 84) dX8_rests_83 rfl rfl ?_
                  refine R_iload (n := 86) dX8_rests_84 rfl rfl ?_
                  refine iv_X8_182 (n := 89) (ct_X8_isRest hL1 hL2 (by omega)) (by decide) dX8_rests_86 rfl (Nat.le_of_ble_eq_true rfl) (fun r μ' hq => ?_)
                  obtain ⟨rfl, hq⟩ := hq
                  have hq := hq.symm
                  subst hq
                  rw [rsF, rsS]
                  cases hb : restL (ls1 (gC σ) (gS σ) i j k) (ls2 (gC σ) (gS σ) i j k) (e / 4) (e % 4) 4 0 with
                  | true =>
                    rw [if_pos rfl]
                    refine R_if_eq_f (n := 92) dX8_rests_89 rfl rfl (by decide) ?_
                    refine R_iload (n := 94) dX8_rests_92 rfl rfl ?_
                    by_cases ec : c = 0
                    · rw [if_pos (show (c, fr).1 = 0 from ec)]
                      refine R_if_ne_f (n := 97) dX8_rests_94 rfl rfl (ec) ?_
                      refine R_bipush (v := nI 10) (n := 99) dX8_rests_97 rfl rfl ?_
                      refine R_iload (n := 101) dX8_rests_99 rfl rfl ?_
                      refine R_iconst (v := nI 4) (n := 102) dX8_rests_101 rfl rfl ?_
                      refine R_idiv_n (n := 103) dX8_rests_102 (by omega) (by omega) (by omega) rfl ?_
                      refine R_imul_n (n := 104) dX8_rests_103 rfl ?_
                      refine R_iload (n := 106) dX8_rests_104 rfl rfl ?_
                      refine R_iconst (v := nI 4) (n := 107) dX8_rests_106 rfl rfl ?_
                      refine R_irem_n (n := 108) dX8_rests_107 (by omega) (by omega) (by omega) rfl ?_
                      refine R_iadd_n (n := 109) dX8_rests_108 rfl ?_
                      refine R_goto (tgt := 114) dX8_rests_109 rfl ?_
                      refine R_istore (n := 116) dX8_rests_114 rfl (Nat.le_of_ble_eq_true rfl) (Nat.le_of_ble_eq_true rfl) ?_
                      refine R_iinc (n := 119) dX8_rests_116 rfl rfl (rfl) (Nat.le_of_ble_eq_true rfl) ?_
                      refine R_iinc (n := 122) dX8_rests_119 rfl rfl (nI_1 _) (Nat.le_of_ble_eq_true rfl) ?_
                      refine R_goto (tgt := 76) dX8_rests_122 rfl ?_
                      exact ih (e + 1) _ _ (by omega)
                    · rw [if_neg (show ¬ (c, fr).1 = 0 from ec)]
                      refine R_if_ne_t (tgt := 112) dX8_rests_94 rfl (ec) ?_
                      refine R_iload (n := 114) dX8_rests_112 rfl rfl ?_
                      refine R_istore (n := 116) dX8_rests_114 rfl (Nat.le_of_ble_eq_true rfl) (Nat.le_of_ble_eq_true rfl) ?_
                      refine R_iinc (n := 119) dX8_rests_116 rfl rfl (rfl) (Nat.le_of_ble_eq_true rfl) ?_
                      refine R_iinc (n := 122) dX8_rests_119 rfl rfl (nI_1 _) (Nat.le_of_ble_eq_true rfl) ?_
                      refine R_goto (tgt := 76) dX8_rests_122 rfl ?_
                      exact ih (e + 1) _ _ (by omega)
                  | false =>
                    rw [if_neg (show ¬ false = true by decide)]
                    refine R_if_eq_t (tgt := 119) dX8_rests_89 rfl (by decide) ?_
                    refine R_iinc (n := 122) dX8_rests_119 rfl rfl (nI_1 _) (Nat.le_of_ble_eq_true rfl) ?_
                    refine R_goto (tgt := 76) dX8_rests_122 rfl ?_
                    exact ih (e + 1) _ _ (by omega)
              have := loop 16 0 (nI 0) (-9) (by omega)
              rw [rsF_16] at this
              exact this
              · have q := (pos_spec (pm_gos (C := gC σ) ((gC σ).2.1 - sPsd (gS σ)) (addE (addE (gS σ) (k * 6 + i) (nI (e / 4))) (k * 6 + j) (nI (e % 4))) w.1.2.1) hyl).1
                have q2 : posF (sRow (lsT (gC σ) (gS σ) i j k (e / 4) (e % 4))) j (gC σ).1 < (gC σ).1 := q
                unfold ls2
                omega
              · have q := (pos_spec (pm_gos (C := gC σ) ((gC σ).2.1 - sPsd (gS σ)) (addE (addE (gS σ) (k * 6 + i) (nI (e / 4))) (k * 6 + j) (nI (e % 4))) w.1.2.1) hxl).1
                have q2 : posF (sRow (lsT (gC σ) (gS σ) i j k (e / 4) (e % 4))) i (gC σ).1 < (gC σ).1 := q
                unfold ls1
                omega
end M11

