/-! THE MODEL's days, gave -/
section M13
variable {G : Gm} {l : Launch} {μ : Mem} {σ : GS}
theorem WF.z (w : WF σ) (z : Int64) : WF (setZ σ z) := w
theorem ct_X8_days (h : MI μ σ) (w : WF σ) (x y : Int32) : Ct G l 5 yX8_days cX8_days 7 (some .int) [.ref (G.2.2.1 125), .int x, .int y] μ (fun r μ' => r = some (.int (fDays σ x y).1) ∧ MI μ' (fDays σ x y).2 ∧ SmM μ μ') := by
  obtain ⟨o1, o2, o3, o4, o5, o6⟩ := id w.1.1
  refine Ct.of 4 (by decide +kernel) rfl (Nat.le_of_ble_eq_true rfl) ?_
  show V G l RX8 cX8_days 7 _ false _ _ 0 [some (.ref _), some (.int _), some (.int _), none, none, none, none] [] _
  refine R_aload_n (n := 1) dX8_days_0 rfl rfl ?_
  refine R_iload_n (n := 2) dX8_days_1 rfl rfl ?_
  refine iv_X8_89 (n := 5) (ct_X8_isBarge x h.2.1.2.1 (by omega)) (by decide) dX8_days_2 rfl (Nat.le_of_ble_eq_true rfl) (fun r μ' hq => ?_)
  obtain ⟨rfl, hq⟩ := hq
  have hq := hq.symm
  subst hq
  cases hx : inR x (gC σ).1 with
  | false =>
    rw [show fDays σ x y = (-1, σ) by rw [fDays, hx]; rfl]
    refine R_if_ne_f (n := 8) dX8_days_5 rfl rfl (by decide) ?_
    refine R_iconst (v := -1) (n := 9) dX8_days_8 rfl rfl ?_
    refine R_iret dX8_days_9 rfl (rfl) (⟨rfl, h, SmM.rf _⟩)
  | true =>
    obtain ⟨hxl, hxe⟩ := inR_cl (by omega) hx
    have hF : fDays σ x y = if y < nI 1 ∨ nI 30 < y then (-2, σ)
    else (nI (dyL (gC σ) (gS σ) x.toNatClampNeg y.toNatClampNeg (gZ σ) 0).1, setZ σ (dyL (gC σ) (gS σ) x.toNatClampNeg y.toNatClampNeg (gZ σ) 0).2) := by rw [fDays, hx]; rfl
    rw [hF]
    clear hF hx
    generalize x.toNatClampNeg = j at *
    subst hxe
    refine R_if_ne_t (tgt := 10) dX8_days_5 rfl (by decide) ?_
    refine R_iload_n (n := 11) dX8_days_10 rfl rfl ?_
    refine R_i2l (n := 12) dX8_days_11 rfl ?_
    refine R_lconst (n := 13) dX8_days_12 rfl rfl ?_
    refine R_ldc2 (n := 16) dX8_days_13 tK_RX8_191 rfl ?_
    refine iv_X8_56 (n := 19) (ct_X8_in y (nI 1) (nI 30)) (by decide) dX8_days_16 rfl (Nat.le_of_ble_eq_true rfl) (fun r μ' hq => ?_)
    obtain ⟨rfl, hq⟩ := hq
    have hq := hq.symm
    subst hq
    cases hy : inI y (nI 1) (nI 30) with
    | false =>
      rw [if_pos (inI_b.mp hy)]
      refine R_if_ne_f (n := 22) dX8_days_19 rfl rfl (by decide) ?_
      refine R_bipush (v := -2) (n := 24) dX8_days_22 rfl rfl ?_
      refine R_iret dX8_days_24 rfl (rfl) (⟨rfl, h, SmM.rf _⟩)
    | true =>
      have hy2 : ¬ (y < nI 1 ∨ nI 30 < y) := fun z => by rw [inI_b.mpr z] at hy; cases hy
      rw [if_neg hy2]
      obtain ⟨m, hm, rfl⟩ := nI_of (x := y) (fun z => hy2 (Or.inl (Int32.lt_trans z (by decide))))
      rw [nI_clamp hm]
      have h2 : m ≤ 30 := by
        have q : ¬ nI 30 < nI m := fun z => hy2 (Or.inr z)
        rw [nI_ltI (by omega) hm] at q
        omega
      refine R_if_ne_t (tgt := 25) dX8_days_19 rfl (by decide) ?_
      refine R_iconst (v := nI 0) (n := 26) dX8_days_25 rfl rfl ?_
      refine R_istore_n (n := 27) dX8_days_26 rfl (Nat.le_of_ble_eq_true rfl) (Nat.le_of_ble_eq_true rfl) ?_
      refine R_iconst (v := nI 0) (n := 28) dX8_days_27 rfl rfl ?_
      refine R_istore (n := 30) dX8_days_28 rfl (Nat.le_of_ble_eq_true rfl) (Nat.le_of_ble_eq_true rfl) ?_
      have loop : ∀ (f k c : Nat) (z : Int64) (μ1 : Mem) (j5 j6 : Option Value), k + f = m → c ≤ k → MI μ1 (setZ σ z) → SmM μ μ1 → V G l RX8 cX8_days 7 5 false (some .int) (fun r μ' => r = some (.int (nI (dyL (gC σ) (gS σ) j f z c).1)) ∧ MI μ' (setZ σ (dyL (gC σ) (gS σ) j f z c).2) ∧ SmM μ μ') 30 [some (.ref (G.2.2.1 125)), some (.int (nI j)), some (.int (nI m)), some (.int (nI c)), some (.int (nI k)), j5, j6] [] μ1 := by
        intro f
        induction f with
        | zero =>
          intro k c z μ1 j5 j6 a1 a2 a3 a4
          refine R_iload (n := 32) dX8_days_30 rfl rfl ?_
          refine R_iload_n (n := 33) dX8_days_32 rfl rfl ?_
          refine R_icmp_ge_t (tgt := 159) dX8_days_33 rfl (by rw [nI_leI (by omega) (by omega)]; omega) ?_
          refine R_iload_n (n := 160) dX8_days_159 rfl rfl ?_
          refine R_iret dX8_days_160 rfl (rfl) (⟨rfl, a3, a4⟩)
        | succ f ih =>
          intro k c z μ1 j5 j6 a1 a2 a3 a4
          refine R_iload (n := 32) dX8_days_30 rfl rfl ?_
          refine R_iload_n (n := 33) dX8_days_32 rfl rfl ?_
          refine R_icmp_ge_f (n := 36) dX8_days_33 rfl rfl (by rw [nI_leI (by omega) (by omega)]; omega) ?_
          refine R_aload_n (n := 37) dX8_days_36 rfl rfl ?_
          refine R_aload_n (n := 38) dX8_days_37 rfl rfl ?_
          refine gf_X8_187 (n := 41) dX8_days_38 rfl ?_
          rw [a3.2.2.2.2.2, show gZ (setZ σ z) = z from rfl]
          refine R_ldc2 (n := 44) dX8_days_41 tK_RX8_193 rfl ?_
          refine R_lmul (n := 45) dX8_days_44 rfl ?_
          refine R_ldc2 (n := 48) dX8_days_45 tK_RX8_195 rfl ?_
          refine R_ladd (n := 49) dX8_days_48 rfl ?_
          refine pf_X8_187 (n := 52) dX8_days_49 rfl ?_
          refine R_aload_n (n := 53) dX8_days_52 rfl rfl ?_
          refine gf_X8_187 (n := 56) dX8_days_53 rfl ?_
          rw [stl_2, if_pos rfl, ← nxZ]
          have b3 : MI (stl μ1 125 (nxZ z)) (setZ σ (nxZ z)) := MI.wZ a3 (nxZ z)
          have b4 : SmM μ (stl μ1 125 (nxZ z)) := a4.tr (SmM.stl _ _)
          generalize stl μ1 125 (nxZ z) = μ2 at *
          have e := zst_eq (nxZ z)
          dsimp only at e
          have hs : stZ (nxZ z) < 64 := Nat.mod_lt _ (by decide)
          refine R_bipush (v := nI 33) (n := 58) dX8_days_56 rfl rfl ?_
          refine R_lushr (n := 59) dX8_days_58 rfl ?_
          refine R_ldc2 (n := 62) dX8_days_59 tK_RX8_197 rfl ?_
          refine R_lrem (n := 63) dX8_days_62 (by decide) rfl ?_
          refine R_l2i (n := 64) dX8_days_63 rfl ?_
          rw [e]
          refine R_istore (n := 66) dX8_days_64 rfl (Nat.le_of_ble_eq_true rfl) (Nat.le_of_ble_eq_true rfl) ?_
          refine R_aload_n (n := 67) dX8_days_66 rfl rfl ?_
          refine iv_X8_126 (n := 70) (ct_X8_layTrial (b3.qz w)) (by decide) dX8_days_67 rfl (Nat.le_of_ble_eq_true rfl) (fun r μ' hq => ?_)
          obtain ⟨rfl, -, g1, g2, g3⟩ := hq
          have c3 : MI μ' (setZ σ (nxZ z)) := b3.kept (w.z _) g3.qm
          have c4 : SmM μ μ' := b4.tr (g3.M (fun i j h => by omega))
          have hpsd : μ'.1 128 53 = nI (sPsd (gS σ)) := (m0 (c3.qz w).2.1).2.2.2.2.2
          have hgv : ∀ e, e < 30 → μ'.1 128 (77 + e) = sGvn (gS σ) e := g1.2.2.2.2.1
          refine R_iconst (v := nI 0) (n := 71) dX8_days_70 rfl rfl ?_
          refine R_istore (n := 73) dX8_days_71 rfl (Nat.le_of_ble_eq_true rfl) (Nat.le_of_ble_eq_true rfl) ?_
          rw [dyL]
          generalize stZ (nxZ z) = s at *
          refine down (z := 6 * (gC σ).2.1) (P := fun e0 => ∀ μ3 : Mem, (∀ q, q < e0 → μ3.1 128 (77 + q) = sGvn (gS σ) q + nI (if sPsd (gS σ) ≤ q / 6 ∧ tb s (q % 6) = 1 then 1 else 0)) → (∀ q, e0 ≤ q → q < 30 → μ3.1 128 (77 + q) = sGvn (gS σ) q) → Sme (fun i j => i = 128 ∧ 77 ≤ j ∧ j < 107) μ' μ3 → V G l RX8 cX8_days 7 5 false (some .int) (fun r μ' => r = some (.int (nI (dyL (gC σ) (gS σ) j f (nxZ z) (if fgF (gC σ) (gS σ) j s = true then c + 1 else c)).1)) ∧ MI μ' (setZ σ (dyL (gC σ) (gS σ) j f (nxZ z) (if fgF (gC σ) (gS σ) j s = true then c + 1 else c)).2) ∧ SmM μ μ') 73 [some (.ref _), some (.int (nI j)), some (.int (nI m)), some (.int (nI c)), some (.int (nI k)), some (.int (nI s)), some (.int (nI e0))] [] μ3) ?_ ?_ 0 (Nat.zero_le _) μ' (fun q hq => absurd hq (by omega)) (fun q _ hq => hgv q hq) (Sme.rf _ _)
          · intro μ3 d1 d2 d3
            have hM3 := (c3.qz w).1.kept d3 (by omega) (by omega) (fun j => by omega) (fun j => by omega)
            have hT3 : MSt μ3 128 54 (gC σ).1 (gC σ) (agM (gC σ) (gS σ) s) := by
              obtain ⟨t1, t2, t3, t4, t5, t6⟩ := g1
              refine ⟨fun p hp => (d3.1 _ _ (by omega)).trans (t1 p hp), fun p hp => ?_, fun p hp => ?_, fun p hp => ?_, fun q hq => ?_, (d3.1 _ _ (by omega)).trans t6⟩
              · exact (d3.1 _ _ (by omega)).trans (t2 p hp)
              · exact (d3.1 _ _ (by omega)).trans (t3 p hp)
              · exact (d3.1 _ _ (by omega)).trans (t4 p hp)
              · show μ3.1 128 (77 + q) = if q < 6 * (gC σ).2.1 then _ else _
                by_cases eq : q < 6 * (gC σ).2.1
                · rw [if_pos eq]; exact d1 q eq
                · rw [if_neg eq]; exact d2 q (by omega) hq
            refine R_iload (n := 75) dX8_days_73 rfl rfl ?_
            refine R_bipush (v := nI 6) (n := 77) dX8_days_75 rfl rfl ?_
            refine R_aload_n (n := 78) dX8_days_77 rfl rfl ?_
            refine ge_X8_50 (n := 81) dX8_days_78 rfl (hM3.1) ?_
            refine R_imul_n (n := 82) dX8_days_81 rfl ?_
            refine R_icmp_ge_t (tgt := 137) dX8_days_82 rfl (by rw [nI_leI (by omega) (by omega)]; omega) ?_
            refine R_iload_n (n := 138) dX8_days_137 rfl rfl ?_
            refine R_aload_n (n := 139) dX8_days_138 rfl rfl ?_
            refine R_iload_n (n := 140) dX8_days_139 rfl rfl ?_
            refine iv_X8_199 (n := 143) (ct_X8_isFirst hM3 hT3 w.1.1 hxl) (by decide) dX8_days_140 rfl (Nat.le_of_ble_eq_true rfl) (fun r μ9 hq => ?_)
            obtain ⟨rfl, f1⟩ := hq
            have s5 : Sme Qrm μ' μ9 := (d3.mono (P' := Qrm) (fun i j z => by omega)).tr f1.qm
            have c5 := c3.kept (w.z _) s5
            have c6 := c4.tr (s5.M (fun i j z => by omega))
            rw [fgF_agM w.1.1]
            cases hf : decide (sRow (bas (gC σ) (agM (gC σ) (gS σ) s)) 0 = j) with
            | true =>
              refine R_if_eq_f (n := 146) dX8_days_143 rfl rfl (by decide) ?_
              refine R_iconst (v := nI 1) (n := 147) dX8_days_146 rfl rfl ?_
              refine R_goto (tgt := 151) dX8_days_147 rfl ?_
              refine R_iadd_n (n := 152) dX8_days_151 rfl ?_
              refine R_istore_n (n := 153) dX8_days_152 rfl (Nat.le_of_ble_eq_true rfl) (Nat.le_of_ble_eq_true rfl) ?_
              refine R_iinc (n := 156) dX8_days_153 rfl rfl (nI_1 _) (Nat.le_of_ble_eq_true rfl) ?_
              refine R_goto (tgt := 30) dX8_days_156 rfl ?_
              exact ih (k + 1) (c + 1) _ _ _ _ (by omega) (by omega) c5 c6
            | false =>
              refine R_if_eq_t (tgt := 150) dX8_days_143 rfl (by decide) ?_
              refine R_iconst (v := nI 0) (n := 151) dX8_days_150 rfl rfl ?_
              refine R_iadd_n (n := 152) dX8_days_151 rfl ?_
              refine R_istore_n (n := 153) dX8_days_152 rfl (Nat.le_of_ble_eq_true rfl) (Nat.le_of_ble_eq_true rfl) ?_
              refine R_iinc (n := 156) dX8_days_153 rfl rfl (nI_1 _) (Nat.le_of_ble_eq_true rfl) ?_
              refine R_goto (tgt := 30) dX8_days_156 rfl ?_
              exact ih (k + 1) c _ _ _ _ (by omega) (by omega) c5 c6
          · intro q hq ihq μ3 d1 d2 d3
            have hM3 := (c3.qz w).1.kept d3 (by omega) (by omega) (fun j => by omega) (fun j => by omega)
            have hp3 : μ3.1 128 53 = nI (sPsd (gS σ)) := (d3.1 _ _ (by omega)).trans hpsd
            have hg3 := d2 q (Nat.le_refl _) (by omega)
            have fin : ∀ v : Nat, v = (if sPsd (gS σ) ≤ q / 6 ∧ tb s (q % 6) = 1 then 1 else 0) → V G l RX8 cX8_days 7 5 false (some .int) (fun r μ' => r = some (.int (nI (dyL (gC σ) (gS σ) j f (nxZ z) (if fgF (gC σ) (gS σ) j s = true then c + 1 else c)).1)) ∧ MI μ' (setZ σ (dyL (gC σ) (gS σ) j f (nxZ z) (if fgF (gC σ) (gS σ) j s = true then c + 1 else c)).2) ∧ SmM μ μ') 129 [some (.ref (G.2.2.1 125)), some (.int (nI j)), some (.int (nI m)), some (.int (nI c)), some (.int (nI k)), some (.int (nI s)), some (.int (nI q))] [.int (nI v), .int (sGvn (gS σ) q), .int (nI (77 + q)), .ref (G.2.2.1 128)] μ3 := by
              intro v hv
              refine R_iadd (n := 130) dX8_days_129 rfl ?_
              refine R_iast (n := 131) sh_128 (rfl) (by omega) dX8_days_130 rfl ?_
              refine R_iinc (n := 134) dX8_days_131 rfl rfl (nI_1 _) (Nat.le_of_ble_eq_true rfl) ?_
              refine R_goto (tgt := 73) dX8_days_134 rfl ?_
              refine ihq _ (fun u hu => ?_) (fun u hu hu2 => ?_) (d3.sti (by omega))
              · rw [sti_1]
                by_cases eu : u = q
                · rw [if_pos ⟨rfl, by omega⟩, eu, hv]
                · rw [if_neg (by omega)]; exact d1 u (by omega)
              · rw [sti_1_pf _ _ _ _ _ _ (by omega)]
                exact d2 u (by omega) hu2
            refine R_iload (n := 75) dX8_days_73 rfl rfl ?_
            refine R_bipush (v := nI 6) (n := 77) dX8_days_75 rfl rfl ?_
            refine R_aload_n (n := 78) dX8_days_77 rfl rfl ?_
            refine ge_X8_50 (n := 81) dX8_days_78 rfl (hM3.1) ?_
            refine R_imul_n (n := 82) dX8_days_81 rfl ?_
            refine R_icmp_ge_f (n := 85) dX8_days_82 rfl rfl (by rw [nI_leI (by omega) (by omega)]; omega) ?_
            refine R_aload_n (n := 86) dX8_days_85 rfl rfl ?_
            refine gf_X8_16 (n := 89) dX8_days_86 rfl ?_
            refine R_bipush (v := nI 77) (n := 91) dX8_days_89 rfl rfl ?_
            refine R_iload (n := 93) dX8_days_91 rfl rfl ?_
            refine R_iadd_n (n := 94) dX8_days_93 rfl ?_
            refine R_dup2 (n := 95) dX8_days_94 rfl rfl rfl ?_
            refine R_iald_e (n := 96) sh_128 (rfl) (by omega) dX8_days_95 rfl (hg3) ?_
            refine R_iload (n := 98) dX8_days_96 rfl rfl ?_
            refine R_bipush (v := nI 6) (n := 100) dX8_days_98 rfl rfl ?_
            refine R_idiv_n (n := 101) dX8_days_100 (by omega) (by omega) (by omega) rfl ?_
            refine R_aload_n (n := 102) dX8_days_101 rfl rfl ?_
            refine gf_X8_16 (n := 105) dX8_days_102 rfl ?_
            refine R_bipush (v := nI 53) (n := 107) dX8_days_105 rfl rfl ?_
            refine R_iald_e (n := 108) sh_128 (rfl) (by omega) dX8_days_107 rfl (hp3) ?_
            by_cases e1 : sPsd (gS σ) ≤ q / 6
            · refine R_icmp_lt_f (n := 111) dX8_days_108 rfl rfl (by rw [nI_ltI (by omega) (by omega)]; omega) ?_
              refine R_iload (n := 113) dX8_days_111 rfl rfl ?_
              refine R_iload (n := 115) dX8_days_113 rfl rfl ?_
              refine R_bipush (v := nI 6) (n := 117) dX8_days_115 rfl rfl ?_
              refine R_irem_n (n := 118) dX8_days_117 (by omega) (by omega) (by omega) rfl ?_
              refine iv_X8_139 (n := 121) (ct_X8_has hs (by omega)) (by decide) dX8_days_118 rfl (Nat.le_of_ble_eq_true rfl) (fun r μ' hq => ?_)
              obtain ⟨rfl, hq⟩ := hq
              have hq := hq.symm
              subst hq
              by_cases e2 : tb s (q % 6) = 1
              · rw [decide_eq_true e2]
                refine R_if_eq_f (n := 124) dX8_days_121 rfl rfl (by decide) ?_
                refine R_iconst (v := nI 1) (n := 125) dX8_days_124 rfl rfl ?_
                refine R_goto (tgt := 129) dX8_days_125 rfl ?_
                exact fin 1 (by rw [if_pos ⟨e1, e2⟩])
              · rw [decide_eq_false e2]
                refine R_if_eq_t (tgt := 128) dX8_days_121 rfl (by decide) ?_
                refine R_iconst (v := nI 0) (n := 129) dX8_days_128 rfl rfl ?_
                exact fin 0 (by rw [if_neg (fun z => e2 z.2)])
            · refine R_icmp_lt_t (tgt := 128) dX8_days_108 rfl (by rw [nI_ltI (by omega) (by omega)]; omega) ?_
              refine R_iconst (v := nI 0) (n := 129) dX8_days_128 rfl rfl ?_
              exact fin 0 (by rw [if_neg (fun z => e1 z.1)])
      exact loop m 0 0 (gZ σ) μ _ _ (by omega) (by omega) h (SmM.rf _)
theorem ct_X8_gave (h : MI μ σ) (w : WF σ) (x y z : Int32) : Ct G l 4 yX8_gave cX8_gave 8 (some .int) [.ref (G.2.2.1 125), .int x, .int y, .int z] μ (fun r μ' => r = some (.int (aGave σ x y z)) ∧ Sme Qrm μ μ') := by
  obtain ⟨o1, o2, o3, o4, o5, o6⟩ := id w.1.1
  obtain ⟨m1, m2, m3, m4, m5, m6⟩ := m0 h.2.2.1
  have h64 : ∀ n, n < 7 → 0 < 2 ^ n ∧ 2 ^ n < 65 := by decide +kernel
  have h2n := h64 (gC σ).1 (by omega)
  have hbt : nI 1 <<< (nI (gC σ).1 &&& 31) = nI (2 ^ (gC σ).1) := bt_pow _ (by omega)
  refine Ct.of 4 (by decide +kernel) rfl (Nat.le_of_ble_eq_true rfl) ?_
  show V G l RX8 cX8_gave 8 _ false _ _ 0 [some (.ref _), some (.int _), some (.int _), some (.int _), none, none, none, none] [] _
  refine R_aload_n (n := 1) dX8_gave_0 rfl rfl ?_
  refine R_iload_n (n := 2) dX8_gave_1 rfl rfl ?_
  refine iv_X8_97 (n := 5) (ct_X8_isLock x h.2.1.1 (by omega)) (by decide) dX8_gave_2 rfl (Nat.le_of_ble_eq_true rfl) (fun r μ' hq => ?_)
  obtain ⟨rfl, hq⟩ := hq
  have hq := hq.symm
  subst hq
  cases hx : inR x (gC σ).2.1 with
  | false =>
    refine R_if_ne_f (n := 8) dX8_gave_5 rfl rfl (by decide) ?_
    refine R_iconst (v := -1) (n := 9) dX8_gave_8 rfl rfl ?_
    refine R_iret dX8_gave_9 rfl (rfl) (⟨by rw [aGave, hx]; rfl, Sme.rf _ _⟩)
  | true =>
    obtain ⟨hxl, hxe⟩ := inR_cl (by omega) hx
    rw [aGave, hx, if_pos rfl]
    clear hx
    generalize x.toNatClampNeg = k at *
    subst hxe
    refine R_if_ne_t (tgt := 10) dX8_gave_5 rfl (by decide) ?_
    refine R_aload_n (n := 11) dX8_gave_10 rfl rfl ?_
    refine R_iload_n (n := 12) dX8_gave_11 rfl rfl ?_
    refine iv_X8_169 (n := 15) (ct_X8_isOrder y h.2.1.2.1 o1) (by decide) dX8_gave_12 rfl (Nat.le_of_ble_eq_true rfl) (fun r μ' hq => ?_)
    obtain ⟨rfl, hq⟩ := hq
    have hq := hq.symm
    subst hq
    rw [ioB_eq y o1]
    cases ho : ordB y (gC σ).1 with
    | false =>
      rw [if_pos (Or.inl rfl)]
      refine R_if_eq_t (tgt := 30) dX8_gave_15 rfl (by decide) ?_
      refine R_bipush (v := -2) (n := 32) dX8_gave_30 rfl rfl ?_
      refine R_iret dX8_gave_32 rfl (rfl) (⟨rfl, Sme.rf _ _⟩)
    | true =>
      refine R_if_eq_f (n := 18) dX8_gave_15 rfl rfl (by decide) ?_
      refine R_iload_n (n := 19) dX8_gave_18 rfl rfl ?_
      refine R_i2l (n := 20) dX8_gave_19 rfl ?_
      refine R_lconst (n := 21) dX8_gave_20 rfl rfl ?_
      refine R_ldc2 (n := 24) dX8_gave_21 tK_RX8_172 rfl ?_
      refine iv_X8_56 (n := 27) (ct_X8_in z 0 (nI 2)) (by decide) dX8_gave_24 rfl (Nat.le_of_ble_eq_true rfl) (fun r μ' hq => ?_)
      obtain ⟨rfl, hq⟩ := hq
      have hq := hq.symm
      subst hq
      cases hz : inI z 0 (nI 2) with
      | false =>
        rw [if_pos (Or.inr (inI_b.mp hz))]
        refine R_if_ne_f (n := 30) dX8_gave_27 rfl rfl (by decide) ?_
        refine R_bipush (v := -2) (n := 32) dX8_gave_30 rfl rfl ?_
        refine R_iret dX8_gave_32 rfl (rfl) (⟨rfl, Sme.rf _ _⟩)
      | true =>
        have hz2 : ¬ (z < 0 ∨ nI 2 < z) := fun q => by rw [inI_b.mpr q] at hz; cases hz
        rw [if_neg (fun q => q.elim (fun q => by cases q) hz2)]
        refine R_if_ne_t (tgt := 33) dX8_gave_27 rfl (by decide) ?_
        refine R_iload_n (n := 34) dX8_gave_33 rfl rfl ?_
        refine R_aload_n (n := 35) dX8_gave_34 rfl rfl ?_
        refine gf_X8_16 (n := 38) dX8_gave_35 rfl ?_
        refine R_bipush (v := nI 53) (n := 40) dX8_gave_38 rfl rfl ?_
        refine R_iald_e (n := 41) sh_128 (rfl) (by omega) dX8_gave_40 rfl (m6) ?_
        by_cases ep : k < sPsd (gS σ)
        · rw [if_pos ep]
          refine R_icmp_ge_f (n := 44) dX8_gave_41 rfl rfl (by rw [nI_leI (by omega) (by omega)]; omega) ?_
          refine R_bipush (v := -3) (n := 46) dX8_gave_44 rfl rfl ?_
          refine R_iret dX8_gave_46 rfl (rfl) (⟨rfl, Sme.rf _ _⟩)
        · rw [if_neg ep]
          refine R_icmp_ge_t (tgt := 47) dX8_gave_41 rfl (by rw [nI_leI (by omega) (by omega)]; omega) ?_
          refine R_iconst (v := nI 0) (n := 48) dX8_gave_47 rfl rfl ?_
          refine R_istore (n := 50) dX8_gave_48 rfl (Nat.le_of_ble_eq_true rfl) (Nat.le_of_ble_eq_true rfl) ?_
          refine R_iconst (v := nI 1) (n := 51) dX8_gave_50 rfl rfl ?_
          refine R_aload_n (n := 52) dX8_gave_51 rfl rfl ?_
          refine ge_X8_83 (n := 55) dX8_gave_52 rfl (h.2.1.2.1) ?_
          refine R_ishl (n := 56) dX8_gave_55 rfl ?_
          rw [hbt]
          refine R_iconst (v := nI 1) (n := 57) dX8_gave_56 rfl rfl ?_
          refine R_isub_n (n := 58) dX8_gave_57 (by omega) rfl ?_
          refine R_istore (n := 60) dX8_gave_58 rfl (Nat.le_of_ble_eq_true rfl) (Nat.le_of_ble_eq_true rfl) ?_
          refine R_iconst (v := nI 0) (n := 61) dX8_gave_60 rfl rfl ?_
          refine R_istore (n := 63) dX8_gave_61 rfl (Nat.le_of_ble_eq_true rfl) (Nat.le_of_ble_eq_true rfl) ?_
          refine R_iconst (v := nI 0) (n := 64) dX8_gave_63 rfl rfl ?_
          refine R_istore (n := 66) dX8_gave_64 rfl (Nat.le_of_ble_eq_true rfl) (Nat.le_of_ble_eq_true rfl) ?_
          have tail : ∀ (c a o : Int32) (μ1 : Mem) (j7 : Option Value), Sme Qrm μ μ1 → V G l RX8 cX8_gave 8 4 false (some .int) (fun r μ' => r = some (.int (if z = 0 then c else if c = 0 then -9 else if z = nI 1 then a else nI (2 ^ (gC σ).1 - 1) &&& (o ^^^ -1))) ∧ Sme Qrm μ μ') 111 [some (.ref (G.2.2.1 125)), some (.int (nI k)), some (.int y), some (.int z), some (.int c), some (.int a), some (.int o), j7] [] μ1 := by
            intro c a o μ1 j7 hs
            have hb1 := ((h.kept w hs).2.1).2.1
            refine R_iload_n (n := 112) dX8_gave_111 rfl rfl ?_
            by_cases z0 : z = 0
            · rw [if_pos z0]
              refine R_if_ne_f (n := 115) dX8_gave_112 rfl rfl (z0) ?_
              refine R_iload (n := 117) dX8_gave_115 rfl rfl ?_
              refine R_goto (tgt := 153) dX8_gave_117 rfl ?_
              refine R_iret dX8_gave_153 rfl (rfl) (⟨rfl, hs⟩)
            · rw [if_neg z0]
              refine R_if_ne_t (tgt := 120) dX8_gave_112 rfl (z0) ?_
              refine R_iload (n := 122) dX8_gave_120 rfl rfl ?_
              by_cases c0 : c = 0
              · rw [if_pos c0]
                refine R_if_ne_f (n := 125) dX8_gave_122 rfl rfl (c0) ?_
                refine R_bipush (v := -9) (n := 127) dX8_gave_125 rfl rfl ?_
                refine R_goto (tgt := 153) dX8_gave_127 rfl ?_
                refine R_iret dX8_gave_153 rfl (rfl) (⟨rfl, hs⟩)
              · rw [if_neg c0]
                refine R_if_ne_t (tgt := 130) dX8_gave_122 rfl (c0) ?_
                refine R_iload_n (n := 131) dX8_gave_130 rfl rfl ?_
                refine R_iconst (v := nI 1) (n := 132) dX8_gave_131 rfl rfl ?_
                by_cases z1 : z = nI 1
                · rw [if_pos z1]
                  refine R_icmp_ne_f (n := 135) dX8_gave_132 rfl rfl (z1) ?_
                  refine R_iload (n := 137) dX8_gave_135 rfl rfl ?_
                  refine R_goto (tgt := 153) dX8_gave_137 rfl ?_
                  refine R_iret dX8_gave_153 rfl (rfl) (⟨rfl, hs⟩)
                · rw [if_neg z1]
                  refine R_icmp_ne_t (tgt := 140) dX8_gave_132 rfl (z1) ?_
                  refine R_iconst (v := nI 1) (n := 141) dX8_gave_140 rfl rfl ?_
                  refine R_aload_n (n := 142) dX8_gave_141 rfl rfl ?_
                  refine ge_X8_83 (n := 145) dX8_gave_142 rfl (hb1) ?_
                  refine R_ishl (n := 146) dX8_gave_145 rfl ?_
                  rw [hbt]
                  refine R_iconst (v := nI 1) (n := 147) dX8_gave_146 rfl rfl ?_
                  refine R_isub_n (n := 148) dX8_gave_147 (by omega) rfl ?_
                  refine R_iload (n := 150) dX8_gave_148 rfl rfl ?_
                  refine R_iconst (v := -1) (n := 151) dX8_gave_150 rfl rfl ?_
                  refine R_ixor (n := 152) dX8_gave_151 rfl ?_
                  refine R_iand (n := 153) dX8_gave_152 rfl ?_
                  refine R_iret dX8_gave_153 rfl (rfl) (⟨rfl, hs⟩)
          have loop : ∀ (f s : Nat) (c a o : Int32) (μ1 : Mem), s + f = 2 ^ (gC σ).1 → Sme Qrm μ μ1 → V G l RX8 cX8_gave 8 4 false (some .int) (fun r μ' => r = some (.int (if z = 0 then (gvL (comeF (gC σ) (gS σ) k y) f s c a o).1 else if (gvL (comeF (gC σ) (gS σ) k y) f s c a o).1 = 0 then -9 else if z = nI 1 then (gvL (comeF (gC σ) (gS σ) k y) f s c a o).2.1 else nI (2 ^ (gC σ).1 - 1) &&& ((gvL (comeF (gC σ) (gS σ) k y) f s c a o).2.2 ^^^ -1))) ∧ Sme Qrm μ μ') 66 [some (.ref (G.2.2.1 125)), some (.int (nI k)), some (.int y), some (.int z), some (.int c), some (.int a), some (.int o), some (.int (nI s))] [] μ1 := by
            intro f
            induction f with
            | zero =>
              intro s c a o μ1 hf hs
              have hb1 := ((h.kept w hs).2.1).2.1
              refine R_iload (n := 68) dX8_gave_66 rfl rfl ?_
              refine R_iconst (v := nI 1) (n := 69) dX8_gave_68 rfl rfl ?_
              refine R_aload_n (n := 70) dX8_gave_69 rfl rfl ?_
              refine ge_X8_83 (n := 73) dX8_gave_70 rfl (hb1) ?_
              refine R_ishl (n := 74) dX8_gave_73 rfl ?_
              rw [hbt]
              refine R_icmp_ge_t (tgt := 111) dX8_gave_74 rfl (by rw [nI_leI (by omega) (by omega)]; omega) ?_
              exact tail c a o μ1 _ hs
            | succ f ih =>
              intro s c a o μ1 hf hs
              have hb1 := ((h.kept w hs).2.1).2.1
              refine R_iload (n := 68) dX8_gave_66 rfl rfl ?_
              refine R_iconst (v := nI 1) (n := 69) dX8_gave_68 rfl rfl ?_
              refine R_aload_n (n := 70) dX8_gave_69 rfl rfl ?_
              refine ge_X8_83 (n := 73) dX8_gave_70 rfl (hb1) ?_
              refine R_ishl (n := 74) dX8_gave_73 rfl ?_
              rw [hbt]
              refine R_icmp_ge_f (n := 77) dX8_gave_74 rfl rfl (by rw [nI_leI (by omega) (by omega)]; omega) ?_
              refine R_aload_n (n := 78) dX8_gave_77 rfl rfl ?_
              refine R_iload_n (n := 79) dX8_gave_78 rfl rfl ?_
              refine R_iload_n (n := 80) dX8_gave_79 rfl rfl ?_
              refine R_iload (n := 82) dX8_gave_80 rfl rfl ?_
              refine iv_X8_174 (n := 85) (ct_X8_comesSo ((h.q w).kept hs) hxl (by omega) (by omega)) (by decide) dX8_gave_82 rfl (Nat.le_of_ble_eq_true rfl) (fun r μ' hq => ?_)
              obtain ⟨rfl, b2⟩ := hq
              have hs2 := hs.tr b2.qm
              rw [gvL]
              cases hc : comeF (gC σ) (gS σ) k y s with
              | true =>
                rw [if_pos (show true = true from rfl)]
                refine R_if_eq_f (n := 88) dX8_gave_85 rfl rfl (by decide) ?_
                refine R_iinc (n := 91) dX8_gave_88 rfl rfl (rfl) (Nat.le_of_ble_eq_true rfl) ?_
                refine R_iload (n := 93) dX8_gave_91 rfl rfl ?_
                refine R_iload (n := 95) dX8_gave_93 rfl rfl ?_
                refine R_iand (n := 96) dX8_gave_95 rfl ?_
                refine R_istore (n := 98) dX8_gave_96 rfl (Nat.le_of_ble_eq_true rfl) (Nat.le_of_ble_eq_true rfl) ?_
                refine R_iload (n := 100) dX8_gave_98 rfl rfl ?_
                refine R_iload (n := 102) dX8_gave_100 rfl rfl ?_
                refine R_ior (n := 103) dX8_gave_102 rfl ?_
                refine R_istore (n := 105) dX8_gave_103 rfl (Nat.le_of_ble_eq_true rfl) (Nat.le_of_ble_eq_true rfl) ?_
                refine R_iinc (n := 108) dX8_gave_105 rfl rfl (nI_1 _) (Nat.le_of_ble_eq_true rfl) ?_
                refine R_goto (tgt := 66) dX8_gave_108 rfl ?_
                exact ih (s + 1) _ _ _ _ (by omega) hs2
              | false =>
                rw [if_neg (show ¬ false = true by decide)]
                refine R_if_eq_t (tgt := 105) dX8_gave_85 rfl (by decide) ?_
                refine R_iinc (n := 108) dX8_gave_105 rfl rfl (nI_1 _) (Nat.le_of_ble_eq_true rfl) ?_
                refine R_goto (tgt := 66) dX8_gave_108 rfl ?_
                exact ih (s + 1) _ _ _ _ (by omega) hs2
          exact loop (2 ^ (gC σ).1) 0 _ _ _ μ (by omega) (Sme.rf _ _)
end M13

