/-! THE MODEL's tea, days -/
section M12
variable {G : Gm} {l : Launch} {μ : Mem} {σ : GS}
def ansT (row : Bool) (t : Option Nat) : Int32 := if row = true then oI t else hmL t
theorem hm_100 {g : Nat} (h : g < 100) : hmL (some (100 + g)) = nI 1 := by
  show (if 100 + g < 100 then nI 0 else if 100 + g < 10000 then nI 1 else nI 2) = nI 1
  rw [if_neg (by omega), if_pos (by omega)]
theorem hm_1e4 {N g : Nat} (hN : N = 10000) : hmL (some (N + g)) = nI 2 := by
  show (if N + g < 100 then nI 0 else if N + g < 10000 then nI 1 else nI 2) = nI 2
  rw [if_neg (by omega), if_neg (by omega)]
theorem ct_X8_tea (h : MI μ σ) (w : WF σ) (x y : Int32) (row : Bool) : Ct G l 5 yX8_tea cX8_tea 5 (some .int) [.ref (G.2.2.1 125), .int x, .int y, .int (bi row)] μ (fun r μ' => r = some (.int (aTea σ x y row)) ∧ Sme Qrm μ μ') := by
  obtain ⟨o1, o2, o3, o4, o5, o6⟩ := id w.1.1
  refine Ct.of 1 (by decide +kernel) rfl (Nat.le_of_ble_eq_true rfl) ?_
  show V G l RX8 cX8_tea 5 _ false _ _ 0 [some (.ref _), some (.int _), some (.int _), some (.int _), none] [] _
  refine R_aload_n (n := 1) dX8_tea_0 rfl rfl ?_
  refine R_iload_n (n := 2) dX8_tea_1 rfl rfl ?_
  refine iv_X8_89 (n := 5) (ct_X8_isBarge x h.2.1.2.1 (by omega)) (by decide) dX8_tea_2 rfl (Nat.le_of_ble_eq_true rfl) (fun r μ' hq => ?_)
  obtain ⟨rfl, hq⟩ := hq
  have hq := hq.symm
  subst hq
  cases hx : inR x (gC σ).1 with
  | false =>
    have hr : ref2 σ x y = -1 := by rw [ref2, hx]; rfl
    rw [aTea, hr, if_neg (by decide)]
    refine R_if_eq_t (tgt := 16) dX8_tea_5 rfl (by decide) ?_
    refine R_iconst (v := -1) (n := 17) dX8_tea_16 rfl rfl ?_
    refine R_iret dX8_tea_17 rfl (rfl) (⟨rfl, Sme.rf _ _⟩)
  | true =>
    refine R_if_eq_f (n := 8) dX8_tea_5 rfl rfl (by decide) ?_
    refine R_aload_n (n := 9) dX8_tea_8 rfl rfl ?_
    refine R_iload_n (n := 10) dX8_tea_9 rfl rfl ?_
    refine iv_X8_89 (n := 13) (ct_X8_isBarge y h.2.1.2.1 (by omega)) (by decide) dX8_tea_10 rfl (Nat.le_of_ble_eq_true rfl) (fun r μ' hq => ?_)
    obtain ⟨rfl, hq⟩ := hq
    have hq := hq.symm
    subst hq
    cases hy : inR y (gC σ).1 with
    | false =>
      have hr : ref2 σ x y = -1 := by rw [ref2, hx, hy]; rfl
      rw [aTea, hr, if_neg (by decide)]
      refine R_if_ne_f (n := 16) dX8_tea_13 rfl rfl (by decide) ?_
      refine R_iconst (v := -1) (n := 17) dX8_tea_16 rfl rfl ?_
      refine R_iret dX8_tea_17 rfl (rfl) (⟨rfl, Sme.rf _ _⟩)
    | true =>
      refine R_if_ne_t (tgt := 18) dX8_tea_13 rfl (by decide) ?_
      refine R_iload_n (n := 19) dX8_tea_18 rfl rfl ?_
      refine R_iload_n (n := 20) dX8_tea_19 rfl rfl ?_
      refine R_icmp_ne (n := 23) (tgt := 26) dX8_tea_20 rfl rfl (fun e => ?_) (fun e => ?_)
      · have hr : ref2 σ x y = nI 0 := by rw [ref2, hx, hy, if_pos (show (true && true) = true from rfl), if_neg e]
        rw [aTea, hr, if_pos rfl]
        obtain ⟨hxl, hxe⟩ := inR_cl (by omega) hx
        obtain ⟨hyl, hye⟩ := inR_cl (by omega) hy
        clear hx hy hr
        generalize x.toNatClampNeg = i at *
        generalize y.toNatClampNeg = j at *
        subst hxe
        subst hye
        obtain ⟨m1, m2, m3, m4, m5, m6⟩ := m0 h.2.2.1
        have ht9 := w.1.2.2
        show V G l RX8 cX8_tea 5 5 false (some .int) (fun r μ' => r = some (.int (ansT row (teaN (gC σ) (gS σ) i j))) ∧ Sme Qrm μ μ') 26 [some (.ref _), some (.int _), some (.int _), some (.int (bi row)), none] [] μ
        obtain ⟨N, hN⟩ : ∃ N : Nat, N = 10000 := ⟨_, rfl⟩
        have loop2 : ∀ (f k : Nat) (μ1 : Mem), k + f = N → Sme Ptm μ μ1 → V G l RX8 cX8_tea 5 5 false (some .int) (fun r μ' => r = some (.int (ansT row ((srch (fun q => wonF (gC σ) (gS σ) i j (q / 100) (q % 100)) f k).map (fun q => N + q)))) ∧ Sme Qrm μ μ') 112 [some (.ref (G.2.2.1 125)), some (.int (nI i)), some (.int (nI j)), some (.int (bi row)), some (.int (nI k))] [] μ1 := by
          intro f
          induction f with
          | zero =>
            intro k μ1 hf hs
            refine R_iload (n := 114) dX8_tea_112 rfl rfl ?_
            refine R_sipush (v := nI 10000) (n := 117) dX8_tea_114 rfl rfl ?_
            refine R_icmp_ge_t (tgt := 195) dX8_tea_117 rfl (by rw [nI_leI (by omega) (by omega)]; omega) ?_
            refine R_bipush (v := -9) (n := 197) dX8_tea_195 rfl rfl ?_
            refine R_iret dX8_tea_197 rfl (rfl) (⟨by cases row <;> rfl, hs.qm⟩)
          | succ f ih =>
            intro k μ1 hf hs
            refine R_iload (n := 114) dX8_tea_112 rfl rfl ?_
            refine R_sipush (v := nI 10000) (n := 117) dX8_tea_114 rfl rfl ?_
            refine R_icmp_ge_f (n := 120) dX8_tea_117 rfl rfl (by rw [nI_leI (by omega) (by omega)]; omega) ?_
            refine R_aload_n (n := 121) dX8_tea_120 rfl rfl ?_
            refine iv_X8_126 (n := 124) (ct_X8_layTrial ((h.q w).kept hs.qm)) (by decide) dX8_tea_121 rfl (Nat.le_of_ble_eq_true rfl) (fun r μ' hq => ?_)
            obtain ⟨rfl, -, g1, g2, g3⟩ := hq
            have hs2 := hs.tr g3
            have hM2 := h.2.1.kept hs2 (by omega) (by omega) (fun j => by omega) (fun j => by omega)
            have hp2 := (hs2.1 128 53 (by omega)).trans m6
            refine R_aload_n (n := 125) dX8_tea_124 rfl rfl ?_
            refine R_iload (n := 127) dX8_tea_125 rfl rfl ?_
            refine R_sipush (v := nI 1000) (n := 130) dX8_tea_127 rfl rfl ?_
            refine R_idiv_n (n := 131) dX8_tea_130 (by omega) (by omega) (by omega) rfl ?_
            refine R_iload (n := 133) dX8_tea_131 rfl rfl ?_
            refine R_bipush (v := nI 100) (n := 135) dX8_tea_133 rfl rfl ?_
            refine R_idiv_n (n := 136) dX8_tea_135 (by omega) (by omega) (by omega) rfl ?_
            refine R_bipush (v := nI 10) (n := 138) dX8_tea_136 rfl rfl ?_
            refine R_irem_n (n := 139) dX8_tea_138 (by omega) (by omega) (by omega) rfl ?_
            refine iv_X8_149 (n := 142) (ct_X8_giveTrial hM2 g1 ⟨o1, o2⟩ ht9 hp2 (by omega) (by omega) (by omega)) (by decide) dX8_tea_139 rfl (Nat.le_of_ble_eq_true rfl) (fun r μ' hq => ?_)
            obtain ⟨rfl, f1, f2⟩ := hq
            have hs3 := hs2.tr f2
            have d1 : k / 100 / 10 = k / 1000 := by omega
            have d2 : k / 100 % 10 = k / 100 % 10 := rfl
            have d3 : k % 100 / 10 = k / 10 % 10 := by omega
            have d4 : k % 100 % 10 = k % 10 := by omega
            rw [srch]
            have hg := givB_can (gC σ) (gS σ) (k / 100)
            rw [d1] at hg
            rw [givT] at f1
            rw [hg] at f1 ⊢
            have step : ∀ μ2 : Mem, Sme Ptm μ μ2 → wonF (gC σ) (gS σ) i j (k / 100) (k % 100) = false → V G l RX8 cX8_tea 5 5 false (some .int) (fun r μ' => r = some (.int (ansT row ((if wonF (gC σ) (gS σ) i j (k / 100) (k % 100) = true then some k else srch (fun q => wonF (gC σ) (gS σ) i j (q / 100) (q % 100)) f (k + 1)).map (fun q => N + q)))) ∧ Sme Qrm μ μ') 189 [some (.ref (G.2.2.1 125)), some (.int (nI i)), some (.int (nI j)), some (.int (bi row)), some (.int (nI k))] [] μ2 := by
              intro μ2 h2 hw
              rw [hw, if_neg (by decide)]
              refine R_iinc (n := 192) dX8_tea_189 rfl rfl (nI_1 _) (Nat.le_of_ble_eq_true rfl) ?_
              refine R_goto (tgt := 112) dX8_tea_192 rfl ?_
              exact ih (k + 1) μ2 (by omega) h2
            cases hc : canG (gC σ) (gS σ) (k / 100) with
            | false =>
              refine R_if_eq_t (tgt := 189) dX8_tea_142 rfl (by decide) ?_
              exact step _ hs3 (by rw [wonF, canB, hc]; rfl)
            | true =>
              rw [hc, if_pos rfl] at f1
              have hM3 := h.2.1.kept hs3 (by omega) (by omega) (fun j => by omega) (fun j => by omega)
              have hp3 := (hs3.1 128 53 (by omega)).trans m6
              have ht3 : ∀ q, q < (gC σ).1 → sTea (givS (gS σ) (k / 1000) (k / 100 % 10)) q ≤ 9 := by
                intro q hq
                show updN (sTea (gS σ)) (k / 1000) (sTea (gS σ) (k / 1000) - 1) q ≤ 9
                have := (canG_lt hc).1
                have := ht9 (k / 1000) (by omega)
                have := ht9 q hq
                unfold updN
                split <;> omega
              refine R_if_eq_f (n := 145) dX8_tea_142 rfl rfl (by decide) ?_
              refine R_aload_n (n := 146) dX8_tea_145 rfl rfl ?_
              refine R_iload (n := 148) dX8_tea_146 rfl rfl ?_
              refine R_bipush (v := nI 10) (n := 150) dX8_tea_148 rfl rfl ?_
              refine R_idiv_n (n := 151) dX8_tea_150 (by omega) (by omega) (by omega) rfl ?_
              refine R_bipush (v := nI 10) (n := 153) dX8_tea_151 rfl rfl ?_
              refine R_irem_n (n := 154) dX8_tea_153 (by omega) (by omega) (by omega) rfl ?_
              refine R_iload (n := 156) dX8_tea_154 rfl rfl ?_
              refine R_bipush (v := nI 10) (n := 158) dX8_tea_156 rfl rfl ?_
              refine R_irem_n (n := 159) dX8_tea_158 (by omega) (by omega) (by omega) rfl ?_
              refine iv_X8_149 (n := 162) (ct_X8_giveTrial hM3 f1 ⟨o1, o2⟩ ht3 hp3 (by omega) (by omega) (by omega)) (by decide) dX8_tea_159 rfl (Nat.le_of_ble_eq_true rfl) (fun r μ' hq => ?_)
              obtain ⟨rfl, f3, f4⟩ := hq
              have hs4 := hs3.tr f4
              have hg2 := givB_two (h := k % 100) hc
              rw [d1, d3, d4] at hg2
              rw [givT] at f3
              rw [hg2] at f3 ⊢
              cases hb : canB (gC σ) (gS σ) (k / 100) (k % 100) with
              | false =>
                refine R_if_eq_t (tgt := 189) dX8_tea_162 rfl (by decide) ?_
                exact step _ hs4 (by rw [wonF, hb]; rfl)
              | true =>
                rw [hb, if_pos rfl] at f3
                have hM4 := h.2.1.kept hs4 (by omega) (by omega) (fun j => by omega) (fun j => by omega)
                refine R_if_eq_f (n := 165) dX8_tea_162 rfl rfl (by decide) ?_
                refine R_aload_n (n := 166) dX8_tea_165 rfl rfl ?_
                refine R_iload_n (n := 167) dX8_tea_166 rfl rfl ?_
                refine R_iload_n (n := 168) dX8_tea_167 rfl rfl ?_
                refine iv_X8_146 (n := 171) (ct_X8_isSo (w0 := fun j => μ'.1 132 j) hM4 f3 w.1.1 hxl hyl) (by decide) dX8_tea_168 rfl (Nat.le_of_ble_eq_true rfl) (fun r μ' hq => ?_)
                obtain ⟨rfl, b2⟩ := hq
                have hs5 := hs4.tr b2
                have e1 : Eqv (gC σ) (givS (givS (gS σ) (k / 1000) (k / 100 % 10)) (k / 10 % 10) (k % 10)) (addG (addG (gS σ) (k / 100)) (k % 100)) := by
                  have a1 := giv_eqv (gC σ) _ _ (k / 1000) (k / 100 % 10) (Eqv.rf (gC σ) (gS σ))
                  have a2 := giv_eqv (gC σ) _ _ (k / 10 % 10) (k % 10) a1
                  unfold addG
                  rw [d1, d3, d4]
                  exact a2
                rw [suF_eqv (S := givS (givS (gS σ) (k / 1000) (k / 100 % 10)) (k / 10 % 10) (k % 10)) (show Ok (gC σ) (gC σ).1 (givS (givS (gS σ) (k / 1000) (k / 100 % 10)) (k / 10 % 10) (k % 10)) from w.1.1) e1]
                cases hsu : suF (gC σ) (addG (addG (gS σ) (k / 100)) (k % 100)) i j with
                | false =>
                  refine R_if_eq_t (tgt := 189) dX8_tea_171 rfl (by decide) ?_
                  exact step _ hs5 (by rw [wonF, hb, hsu]; rfl)
                | true =>
                  rw [show wonF (gC σ) (gS σ) i j (k / 100) (k % 100) = true by rw [wonF, hb, hsu]; rfl, if_pos rfl]
                  show V G l RX8 cX8_tea 5 5 false (some .int) (fun r μ' => r = some (.int (ansT row (some (N + k)))) ∧ Sme Qrm μ μ') _ _ _ _
                  refine R_if_eq_f (n := 174) dX8_tea_171 rfl rfl (by decide) ?_
                  refine R_iload_n (n := 175) dX8_tea_174 rfl rfl ?_
                  cases row with
                  | true =>
                    refine R_if_eq_f (n := 178) dX8_tea_175 rfl rfl (by decide) ?_
                    refine R_sipush (v := nI 10000) (n := 181) dX8_tea_178 rfl rfl ?_
                    refine R_iload (n := 183) dX8_tea_181 rfl rfl ?_
                    refine R_iadd_n (n := 184) dX8_tea_183 rfl ?_
                    refine R_goto (tgt := 188) dX8_tea_184 rfl ?_
                    refine R_iret dX8_tea_188 rfl (rfl) (⟨by subst hN; rfl, hs5.qm⟩)
                  | false =>
                    refine R_if_eq_t (tgt := 187) dX8_tea_175 rfl (by decide) ?_
                    refine R_iconst (v := nI 2) (n := 188) dX8_tea_187 rfl rfl ?_
                    refine R_iret dX8_tea_188 rfl (rfl) (⟨by rw [ansT, if_neg (by decide), hm_1e4 hN], hs5.qm⟩)
        have loop1 : ∀ (f k : Nat) (μ1 : Mem), k + f = 100 → Sme Ptm μ μ1 → V G l RX8 cX8_tea 5 5 false (some .int) (fun r μ' => r = some (.int (ansT row (match srch (fun g => canG (gC σ) (gS σ) g && suF (gC σ) (addG (gS σ) g) i j) f k with
            | some g => some (100 + g)
            | none => (srch (fun q => wonF (gC σ) (gS σ) i j (q / 100) (q % 100)) N 0).map (fun q => N + q)))) ∧ Sme Qrm μ μ') 52 [some (.ref (G.2.2.1 125)), some (.int (nI i)), some (.int (nI j)), some (.int (bi row)), some (.int (nI k))] [] μ1 := by
          intro f
          induction f with
          | zero =>
            intro k μ1 hf hs
            refine R_iload (n := 54) dX8_tea_52 rfl rfl ?_
            refine R_bipush (v := nI 100) (n := 56) dX8_tea_54 rfl rfl ?_
            refine R_icmp_ge_t (tgt := 109) dX8_tea_56 rfl (by rw [nI_leI (by omega) (by omega)]; omega) ?_
            refine R_iconst (v := nI 0) (n := 110) dX8_tea_109 rfl rfl ?_
            refine R_istore (n := 112) dX8_tea_110 rfl (Nat.le_of_ble_eq_true rfl) (Nat.le_of_ble_eq_true rfl) ?_
            exact loop2 N 0 μ1 (by omega) hs
          | succ f ih =>
            intro k μ1 hf hs
            refine R_iload (n := 54) dX8_tea_52 rfl rfl ?_
            refine R_bipush (v := nI 100) (n := 56) dX8_tea_54 rfl rfl ?_
            refine R_icmp_ge_f (n := 59) dX8_tea_56 rfl rfl (by rw [nI_leI (by omega) (by omega)]; omega) ?_
            refine R_aload_n (n := 60) dX8_tea_59 rfl rfl ?_
            refine iv_X8_126 (n := 63) (ct_X8_layTrial ((h.q w).kept hs.qm)) (by decide) dX8_tea_60 rfl (Nat.le_of_ble_eq_true rfl) (fun r μ' hq => ?_)
            obtain ⟨rfl, -, g1, g2, g3⟩ := hq
            have hs2 := hs.tr g3
            have hM2 := h.2.1.kept hs2 (by omega) (by omega) (fun j => by omega) (fun j => by omega)
            have hp2 := (hs2.1 128 53 (by omega)).trans m6
            refine R_aload_n (n := 64) dX8_tea_63 rfl rfl ?_
            refine R_iload (n := 66) dX8_tea_64 rfl rfl ?_
            refine R_bipush (v := nI 10) (n := 68) dX8_tea_66 rfl rfl ?_
            refine R_idiv_n (n := 69) dX8_tea_68 (by omega) (by omega) (by omega) rfl ?_
            refine R_iload (n := 71) dX8_tea_69 rfl rfl ?_
            refine R_bipush (v := nI 10) (n := 73) dX8_tea_71 rfl rfl ?_
            refine R_irem_n (n := 74) dX8_tea_73 (by omega) (by omega) (by omega) rfl ?_
            refine iv_X8_149 (n := 77) (ct_X8_giveTrial hM2 g1 ⟨o1, o2⟩ ht9 hp2 (by omega) (by omega) (by omega)) (by decide) dX8_tea_74 rfl (Nat.le_of_ble_eq_true rfl) (fun r μ' hq => ?_)
            obtain ⟨rfl, f1, f2⟩ := hq
            have hs3 := hs2.tr f2
            rw [srch]
            have hg := givB_can (gC σ) (gS σ) k
            rw [givT] at f1
            rw [hg] at f1 ⊢
            cases hc : canG (gC σ) (gS σ) k with
            | false =>
              rw [Bool.false_and, if_neg (show ¬ false = true by decide)]
              refine R_if_eq_t (tgt := 103) dX8_tea_77 rfl (by decide) ?_
              refine R_iinc (n := 106) dX8_tea_103 rfl rfl (nI_1 _) (Nat.le_of_ble_eq_true rfl) ?_
              refine R_goto (tgt := 52) dX8_tea_106 rfl ?_
              exact ih (k + 1) _ (by omega) hs3
            | true =>
              rw [hc, if_pos rfl] at f1
              have hM3 := h.2.1.kept hs3 (by omega) (by omega) (fun j => by omega) (fun j => by omega)
              refine R_if_eq_f (n := 80) dX8_tea_77 rfl rfl (by decide) ?_
              refine R_aload_n (n := 81) dX8_tea_80 rfl rfl ?_
              refine R_iload_n (n := 82) dX8_tea_81 rfl rfl ?_
              refine R_iload_n (n := 83) dX8_tea_82 rfl rfl ?_
              refine iv_X8_146 (n := 86) (ct_X8_isSo (w0 := fun j => μ'.1 132 j) hM3 f1 w.1.1 hxl hyl) (by decide) dX8_tea_83 rfl (Nat.le_of_ble_eq_true rfl) (fun r μ' hq => ?_)
              obtain ⟨rfl, b2⟩ := hq
              have hs5 := hs3.tr b2
              have e1 : Eqv (gC σ) (givS (gS σ) (k / 10) (k % 10)) (addG (gS σ) k) := giv_eqv (gC σ) _ _ (k / 10) (k % 10) (Eqv.rf (gC σ) (gS σ))
              rw [suF_eqv (S := givS (gS σ) (k / 10) (k % 10)) (show Ok (gC σ) (gC σ).1 (givS (gS σ) (k / 10) (k % 10)) from w.1.1) e1, Bool.true_and]
              cases hsu : suF (gC σ) (addG (gS σ) k) i j with
              | false =>
                rw [if_neg (show ¬ false = true by decide)]
                refine R_if_eq_t (tgt := 103) dX8_tea_86 rfl (by decide) ?_
                refine R_iinc (n := 106) dX8_tea_103 rfl rfl (nI_1 _) (Nat.le_of_ble_eq_true rfl) ?_
                refine R_goto (tgt := 52) dX8_tea_106 rfl ?_
                exact ih (k + 1) _ (by omega) hs5
              | true =>
                rw [if_pos (show true = true from rfl)]
                refine R_if_eq_f (n := 89) dX8_tea_86 rfl rfl (by decide) ?_
                refine R_iload_n (n := 90) dX8_tea_89 rfl rfl ?_
                cases row with
                | true =>
                  refine R_if_eq_f (n := 93) dX8_tea_90 rfl rfl (by decide) ?_
                  refine R_bipush (v := nI 100) (n := 95) dX8_tea_93 rfl rfl ?_
                  refine R_iload (n := 97) dX8_tea_95 rfl rfl ?_
                  refine R_iadd_n (n := 98) dX8_tea_97 rfl ?_
                  refine R_goto (tgt := 102) dX8_tea_98 rfl ?_
                  refine R_iret dX8_tea_102 rfl (rfl) (⟨rfl, hs5.qm⟩)
                | false =>
                  refine R_if_eq_t (tgt := 101) dX8_tea_90 rfl (by decide) ?_
                  refine R_iconst (v := nI 1) (n := 102) dX8_tea_101 rfl rfl ?_
                  refine R_iret dX8_tea_102 rfl (rfl) (⟨by rw [ansT, if_neg (by decide), hm_100 (by omega)], hs5.qm⟩)
        rw [teaN, srch2_tea hN o1, srch_tea o1]
        refine R_aload_n (n := 27) dX8_tea_26 rfl rfl ?_
        refine iv_X8_126 (n := 30) (ct_X8_layTrial (h.q w)) (by decide) dX8_tea_27 rfl (Nat.le_of_ble_eq_true rfl) (fun r μ' hq => ?_)
        obtain ⟨rfl, -, g1, g2, g3⟩ := hq
        have hM2 := h.2.1.kept g3 (by omega) (by omega) (fun j => by omega) (fun j => by omega)
        refine R_aload_n (n := 31) dX8_tea_30 rfl rfl ?_
        refine R_iload_n (n := 32) dX8_tea_31 rfl rfl ?_
        refine R_iload_n (n := 33) dX8_tea_32 rfl rfl ?_
        refine iv_X8_146 (n := 36) (ct_X8_isSo (w0 := fun _ => nI 0) hM2 g1 w.1.1 hxl hyl) (by decide) dX8_tea_33 rfl (Nat.le_of_ble_eq_true rfl) (fun r μ' hq => ?_)
        obtain ⟨rfl, b2⟩ := hq
        have hs5 := g3.tr b2
        cases hsu : suF (gC σ) (gS σ) i j with
        | true =>
          rw [if_pos rfl]
          refine R_if_eq_f (n := 39) dX8_tea_36 rfl rfl (by decide) ?_
          refine R_iload_n (n := 40) dX8_tea_39 rfl rfl ?_
          cases row with
          | true =>
            refine R_if_eq_f (n := 43) dX8_tea_40 rfl rfl (by decide) ?_
            refine R_iconst (v := nI 1) (n := 44) dX8_tea_43 rfl rfl ?_
            refine R_goto (tgt := 48) dX8_tea_44 rfl ?_
            refine R_iret dX8_tea_48 rfl (rfl) (⟨rfl, hs5.qm⟩)
          | false =>
            refine R_if_eq_t (tgt := 47) dX8_tea_40 rfl (by decide) ?_
            refine R_iconst (v := nI 0) (n := 48) dX8_tea_47 rfl rfl ?_
            refine R_iret dX8_tea_48 rfl (rfl) (⟨rfl, hs5.qm⟩)
        | false =>
          rw [if_neg (by decide)]
          refine R_if_eq_t (tgt := 49) dX8_tea_36 rfl (by decide) ?_
          refine R_iconst (v := nI 0) (n := 50) dX8_tea_49 rfl rfl ?_
          refine R_istore (n := 52) dX8_tea_50 rfl (Nat.le_of_ble_eq_true rfl) (Nat.le_of_ble_eq_true rfl) ?_
          exact loop1 100 0 _ (by omega) hs5
      · have hr : ref2 σ x y = -2 := by rw [ref2, hx, hy, if_pos (show (true && true) = true from rfl), if_pos e]
        rw [aTea, hr, if_neg (by decide)]
        refine R_bipush (v := -2) (n := 25) dX8_tea_23 rfl rfl ?_
        refine R_iret dX8_tea_25 rfl (rfl) (⟨rfl, Sme.rf _ _⟩)
end M12

