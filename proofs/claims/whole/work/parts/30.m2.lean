/-! THE MODEL: a lock gone through, trials, the basin -/
def goW (C : CF) (z : Nat) (S : ST) (w : Nat → Int32) : Nat → Int32 := (goL C.2.2.1 C.2.2.2 (sLaw S (sPsd S)) (fun j => sGvn S (6 * sPsd S + j)) z z 0 (nI 0) (sRow S) (sHrs S) w).2.2
theorem goL_w {len wt : Nat → Int32} {law : Nat} {g : Nat → Int32} {z : Nat} (w' : Nat → Int32) : ∀ (f p : Nat) (hour : Int32) (row : Nat → Nat) (hrs w : Nat → Int32), (goL len wt law g z f p hour row hrs w).1 = (goL len wt law g z f p hour row hrs w').1 ∧ (goL len wt law g z f p hour row hrs w).2.1 = (goL len wt law g z f p hour row hrs w').2.1 := by
  have H : ∀ (f p : Nat) (hour : Int32) (row : Nat → Nat) (hrs w w' : Nat → Int32), (goL len wt law g z f p hour row hrs w).1 = (goL len wt law g z f p hour row hrs w').1 ∧ (goL len wt law g z f p hour row hrs w).2.1 = (goL len wt law g z f p hour row hrs w').2.1 := by
    intro f
    induction f with
    | zero => intro p hour row hrs w w'; exact ⟨rfl, rfl⟩
    | succ f ih =>
      intro p hour row hrs w w'
      by_cases hp : p < z
      · cases ht : twoF len row z p with
        | true => rw [goL_two hp ht, goL_two hp ht]; exact ih _ _ _ _ _ _
        | false => rw [goL_one hp ht, goL_one hp ht]; exact ih _ _ _ _ _ _
      · rw [goL_end hp, goL_end hp]; exact ⟨rfl, rfl⟩
  exact fun f p hour row hrs w => H f p hour row hrs w w'
def gosW (C : CF) (z : Nat) : Nat → ST → (Nat → Int32) → Nat → Int32
  | 0, _, w => w
  | k + 1, S, w => gosW C z k (pass1 C z S) (goW C z S w)
section M2
variable {G : Gm} {l : Launch} {μ : Mem} {C : CF} {S : ST} {z lv : Nat}
abbrev Ppo (lv : Nat) : Nat → Nat → Prop := fun i j => (i = 128 ∧ 54 * lv ≤ j ∧ j < 54 * lv + 12) ∨ (i = 128 ∧ j = 54 * lv + 53) ∨ i = 132
theorem ct_X8_passOn {w0 : Nat → Int32} (hlv : lv < 2) (hM : MCf μ C) (hS : MSt μ 128 (54 * lv) z C S) (hw : ∀ j, j < 6 → μ.1 132 j = w0 j) (hO : Ok C z S) (hlt : sPsd S < C.2.1) : Ct G l 2 yX8_passOn cX8_passOn 11 none [.ref (G.2.2.1 125), .int (nI lv), .int (nI z)] μ (fun r μ' => r = none ∧ MSt μ' 128 (54 * lv) z C (pass1 C z S) ∧ (∀ j, j < 6 → μ'.1 132 j = goW C z S w0 j) ∧ Sme (Ppo lv) μ μ') := by
  obtain ⟨n, L, len, wt⟩ := C
  obtain ⟨hcL, hcn, hcl, hcw⟩ := id hM
  obtain ⟨hn6, hL5, hzn, hrow, hlaw, -⟩ := hO
  obtain ⟨hSr, hSh, hSl, hSt, hSg, hSp⟩ := id hS
  dsimp only at hcL hcn hcl hcw hn6 hL5 hzn hrow hlaw hlt hSt hSl
  generalize hk : sPsd S = k at *
  refine Ct.of 8 (by decide +kernel) rfl (Nat.le_of_ble_eq_true rfl) ?_
  show V G l RX8 cX8_passOn 11 _ false none _ 0 [some (.ref _), some (.int _), some (.int _), none, none, none, none, none, none, none, none] [] _
  refine R_bipush (v := nI 54) (n := 2) dX8_passOn_0 rfl rfl ?_
  refine R_iload_n (n := 3) dX8_passOn_2 rfl rfl ?_
  refine R_imul_n (n := 4) dX8_passOn_3 rfl ?_
  refine R_istore_n (n := 5) dX8_passOn_4 rfl (Nat.le_of_ble_eq_true rfl) (Nat.le_of_ble_eq_true rfl) ?_
  refine R_aload_n (n := 6) dX8_passOn_5 rfl rfl ?_
  refine gf_X8_16 (n := 9) dX8_passOn_6 rfl ?_
  refine R_iload_n (n := 10) dX8_passOn_9 rfl rfl ?_
  refine R_bipush (v := nI 53) (n := 12) dX8_passOn_10 rfl rfl ?_
  refine R_iadd_n (n := 13) dX8_passOn_12 rfl ?_
  refine R_iald_e (n := 14) sh_128 (rfl) (by omega) dX8_passOn_13 rfl (hSp) ?_
  refine R_istore (n := 16) dX8_passOn_14 rfl (Nat.le_of_ble_eq_true rfl) (Nat.le_of_ble_eq_true rfl) ?_
  refine R_iconst (v := nI 0) (n := 17) dX8_passOn_16 rfl rfl ?_
  refine R_istore (n := 19) dX8_passOn_17 rfl (Nat.le_of_ble_eq_true rfl) (Nat.le_of_ble_eq_true rfl) ?_
  refine R_iconst (v := nI 0) (n := 20) dX8_passOn_19 rfl rfl ?_
  refine R_istore (n := 22) dX8_passOn_20 rfl (Nat.le_of_ble_eq_true rfl) (Nat.le_of_ble_eq_true rfl) ?_
  have hl4 := hlaw k hlt
  generalize hR : goL len wt (sLaw S k) (fun j => sGvn S (6 * k + j)) z z 0 (nI 0) (sRow S) (sHrs S) w0 = R
  have hR1 : R.1 = (pass1 (n, L, len, wt) z S).1 ∧ R.2.1 = (pass1 (n, L, len, wt) z S).2.1 := by
    have := goL_w (len := len) (wt := wt) (law := sLaw S k) (g := fun j => sGvn S (6 * k + j)) (z := z) (fun _ => nI 0) z 0 (nI 0) (sRow S) (sHrs S) w0
    rw [hR] at this
    refine ⟨this.1.trans ?_, this.2.trans ?_⟩ <;> (unfold pass1 goS; rw [hk]; rfl)
  have hend : ∀ μ1 : Mem, (∀ q, q < z → μ1.1 128 (54 * lv + q) = nI (R.1 q)) → (∀ j, j < n → μ1.1 128 (54 * lv + 6 + j) = R.2.1 j) → (∀ j, j < 6 → μ1.1 132 j = R.2.2 j) → Sme (Ppo lv) μ μ1 → MSt (sti μ1 128 (54 * lv + 53) (nI (k + 1))) 128 (54 * lv) z (n, L, len, wt) (pass1 (n, L, len, wt) z S) ∧ (∀ j, j < 6 → (sti μ1 128 (54 * lv + 53) (nI (k + 1))).1 132 j = goW (n, L, len, wt) z S w0 j) ∧ Sme (Ppo lv) μ (sti μ1 128 (54 * lv + 53) (nI (k + 1))) := by
    intro μ1 h1 h2 h2' h3
    refine ⟨⟨fun p hp => ?_, fun j (hj : j < n) => ?_, fun j hj => ?_, fun j hj => ?_, fun e he => ?_, ?_⟩, fun j hj => ?_, h3.sti (Or.inr (Or.inl ⟨rfl, rfl⟩))⟩
    · rw [sti_1_pf _ _ _ _ _ _ (by omega), h1 p hp, hR1.1]; rfl
    · rw [sti_1_pf _ _ _ _ _ _ (by omega), h2 j hj, hR1.2]; rfl
    · dsimp only at hj
      rw [sti_1_pf _ _ _ _ _ _ (by omega), h3.1 _ _ (by omega)]; exact hSl j hj
    · dsimp only at hj
      rw [sti_1_pf _ _ _ _ _ _ (by omega), h3.1 _ _ (by omega)]; exact hSt j hj
    · rw [sti_1_pf _ _ _ _ _ _ (by omega), h3.1 _ _ (by omega)]; exact hSg e he
    · rw [sti_1_eq, sPsd_pass1, hk]
    · rw [sti_1_pf _ _ _ _ _ _ (by omega), h2' j hj, goW, hk, ← hR]
  have fin : ∀ (p : Nat) (h : Int32) (μ1 : Mem) (j7 j8 j9 j10 : Option Value), p = z → (∀ q, q < z → μ1.1 128 (54 * lv + q) = nI (R.1 q)) → (∀ j, j < n → μ1.1 128 (54 * lv + 6 + j) = R.2.1 j) → (∀ j, j < 6 → μ1.1 132 j = R.2.2 j) → Sme (Ppo lv) μ μ1 → μ1.1 128 (54 * lv + 53) = nI k → V G l RX8 cX8_passOn 11 2 false none (fun r μ' => r = none ∧ MSt μ' 128 (54 * lv) z (n, L, len, wt) (pass1 (n, L, len, wt) z S) ∧ (∀ j, j < 6 → μ'.1 132 j = goW (n, L, len, wt) z S w0 j) ∧ Sme (Ppo lv) μ μ') 22 [some (.ref (G.2.2.1 125)), some (.int (nI lv)), some (.int (nI z)), some (.int (nI (54 * lv))), some (.int (nI k)), some (.int h), some (.int (nI p)), j7, j8, j9, j10] [] μ1 := by
    intro p h μ1 j7 j8 j9 j10 hp h1 h2 h3 h4 h5
    subst hp
    refine R_iload (n := 24) dX8_passOn_22 rfl rfl ?_
    refine R_iload_n (n := 25) dX8_passOn_24 rfl rfl ?_
    refine R_icmp_ge_t (tgt := 280) dX8_passOn_25 rfl (by rw [nI_leI (by omega) (by omega)]; omega) ?_
    refine R_aload_n (n := 281) dX8_passOn_280 rfl rfl ?_
    refine gf_X8_16 (n := 284) dX8_passOn_281 rfl ?_
    refine R_iload_n (n := 285) dX8_passOn_284 rfl rfl ?_
    refine R_bipush (v := nI 53) (n := 287) dX8_passOn_285 rfl rfl ?_
    refine R_iadd_n (n := 288) dX8_passOn_287 rfl ?_
    refine R_dup2 (n := 289) dX8_passOn_288 rfl rfl rfl ?_
    refine R_iald_e (n := 290) sh_128 (rfl) (by omega) dX8_passOn_289 rfl (h5) ?_
    refine R_iconst (v := nI 1) (n := 291) dX8_passOn_290 rfl rfl ?_
    refine R_iadd_n (n := 292) dX8_passOn_291 rfl ?_
    refine R_iast (n := 293) sh_128 (rfl) (by omega) dX8_passOn_292 rfl ?_
    obtain ⟨e1, e2, e3⟩ := hend μ1 h1 h2 h3 h4
    refine R_ret dX8_passOn_293 rfl (⟨rfl, e1, e2, e3⟩)
  have loop : ∀ (f p : Nat) (h : Int32) (row : Nat → Nat) (hrs w : Nat → Int32) (μ1 : Mem) (j7 j8 j9 j10 : Option Value), p ≤ z → z ≤ p + f → goL len wt (sLaw S k) (fun j => sGvn S (6 * k + j)) z f p h row hrs w = R → (∀ q, q < z → μ1.1 128 (54 * lv + q) = nI (row q)) → (∀ q, q < z → row q < n) → (∀ j, j < n → μ1.1 128 (54 * lv + 6 + j) = hrs j) → (∀ j, j < 6 → μ1.1 132 j = w j) → μ1.1 128 (54 * lv + 53) = nI k → Sme (Ppo lv) μ μ1 →
      V G l RX8 cX8_passOn 11 2 false none (fun r μ' => r = none ∧ MSt μ' 128 (54 * lv) z (n, L, len, wt) (pass1 (n, L, len, wt) z S) ∧ (∀ j, j < 6 → μ'.1 132 j = goW (n, L, len, wt) z S w0 j) ∧ Sme (Ppo lv) μ μ') 22 [some (.ref (G.2.2.1 125)), some (.int (nI lv)), some (.int (nI z)), some (.int (nI (54 * lv))), some (.int (nI k)), some (.int h), some (.int (nI p)), j7, j8, j9, j10] [] μ1 := by
    intro f
    induction f with
    | zero =>
      intro p h row hrs w μ1 j7 j8 j9 j10 hpz hf hG h1 h2 h3 h4 h5 h6
      rw [goL_end (by omega)] at hG
      exact fin p h μ1 _ _ _ _ (by omega) (fun q hq => by rw [h1 q hq, ← hG]) (fun j hj => by rw [h3 j hj, ← hG]) (fun j hj => by rw [h4 j hj, ← hG]) h6 h5
    | succ f ih =>
      intro p h row hrs w μ1 j7 j8 j9 j10 hpz hf hG h1 h2 h3 h4 h5 h6
      by_cases hp : p < z
      · have hq := h2 p hp
        have hM1 := hM.kept h6 (by omega) (by omega) (fun j => by omega) (fun j => by omega)
        have hll : ∀ j, j < n → μ1.1 126 j = len j := hM1.2.2.1
        refine R_iload (n := 24) dX8_passOn_22 rfl rfl ?_
        refine R_iload_n (n := 25) dX8_passOn_24 rfl rfl ?_
        refine R_icmp_ge_f (n := 28) dX8_passOn_25 rfl rfl (by rw [nI_leI (by omega) (by omega)]; omega) ?_
        refine R_aload_n (n := 29) dX8_passOn_28 rfl rfl ?_
        refine gf_X8_16 (n := 32) dX8_passOn_29 rfl ?_
        refine R_iload_n (n := 33) dX8_passOn_32 rfl rfl ?_
        refine R_iload (n := 35) dX8_passOn_33 rfl rfl ?_
        refine R_iadd_n (n := 36) dX8_passOn_35 rfl ?_
        refine R_iald_e (n := 37) sh_128 (rfl) (by omega) dX8_passOn_36 rfl (h1 _ (by omega)) ?_
        refine R_istore (n := 39) dX8_passOn_37 rfl (Nat.le_of_ble_eq_true rfl) (Nat.le_of_ble_eq_true rfl) ?_
        refine R_aload_n (n := 40) dX8_passOn_39 rfl rfl ?_
        refine gf_X8_7 (n := 43) dX8_passOn_40 rfl ?_
        refine R_iload (n := 45) dX8_passOn_43 rfl rfl ?_
        refine R_iald_e (n := 46) sh_126 (rfl) (by omega) dX8_passOn_45 rfl (hll _ (by omega)) ?_
        refine R_iconst (v := nI 1) (n := 47) dX8_passOn_46 rfl rfl ?_
        have two : ∀ bb : Nat, row p < n → (bb = 1 → twoF len row z p = true) → (bb = 0 → twoF len row z p = false) → bb < 2 → V G l RX8 cX8_passOn 11 2 false none (fun r μ' => r = none ∧ MSt μ' 128 (54 * lv) z (n, L, len, wt) (pass1 (n, L, len, wt) z S) ∧ (∀ j, j < 6 → μ'.1 132 j = goW (n, L, len, wt) z S w0 j) ∧ Sme (Ppo lv) μ μ') 83 [some (.ref (G.2.2.1 125)), some (.int (nI lv)), some (.int (nI z)), some (.int (nI (54 * lv))), some (.int (nI k)), some (.int h), some (.int (nI p)), some (.int (nI (row p))), j8, j9, j10] [.int (nI bb)] μ1 := by
          intro bb hqr b1 b0 hbb
          by_cases hb1 : bb = 1
          · subst hb1
            have ht := b1 rfl
            have hp1 : p + 1 < z := by
              rw [twoF, Bool.and_eq_true] at ht
              exact of_decide_eq_true ht.1
            have hq1 := h2 (p + 1) hp1
            rw [goL_two hp ht] at hG
            refine R_istore (n := 85) dX8_passOn_83 rfl (Nat.le_of_ble_eq_true rfl) (Nat.le_of_ble_eq_true rfl) ?_
            refine R_iload (n := 87) dX8_passOn_85 rfl rfl ?_
            refine R_if_eq_f (n := 90) dX8_passOn_87 rfl rfl (by decide) ?_
            refine R_aload_n (n := 91) dX8_passOn_90 rfl rfl ?_
            refine gf_X8_16 (n := 94) dX8_passOn_91 rfl ?_
            refine R_iload_n (n := 95) dX8_passOn_94 rfl rfl ?_
            refine R_iload (n := 97) dX8_passOn_95 rfl rfl ?_
            refine R_iadd_n (n := 98) dX8_passOn_97 rfl ?_
            refine R_iconst (v := nI 1) (n := 99) dX8_passOn_98 rfl rfl ?_
            refine R_iadd_n (n := 100) dX8_passOn_99 rfl ?_
            refine R_iald_e (n := 101) sh_128 (rfl) (by omega) dX8_passOn_100 rfl (h1 (p + 1) (by omega)) ?_
            refine R_goto (tgt := 106) dX8_passOn_101 rfl ?_
            refine R_istore (n := 108) dX8_passOn_106 rfl (Nat.le_of_ble_eq_true rfl) (Nat.le_of_ble_eq_true rfl) ?_
            refine R_iconst (v := nI 1) (n := 109) dX8_passOn_108 rfl rfl ?_
            refine R_iload (n := 111) dX8_passOn_109 rfl rfl ?_
            refine R_aload_n (n := 112) dX8_passOn_111 rfl rfl ?_
            refine gf_X8_16 (n := 115) dX8_passOn_112 rfl ?_
            refine R_iload_n (n := 116) dX8_passOn_115 rfl rfl ?_
            refine R_bipush (v := nI 6) (n := 118) dX8_passOn_116 rfl rfl ?_
            refine R_iadd_n (n := 119) dX8_passOn_118 rfl ?_
            refine R_iload (n := 121) dX8_passOn_119 rfl rfl ?_
            refine R_iadd_n (n := 122) dX8_passOn_121 rfl ?_
            refine R_iald_e (n := 123) sh_128 (rfl) (by omega) dX8_passOn_122 rfl (h3 _ (by omega)) ?_
            refine R_aload_n (n := 124) dX8_passOn_123 rfl rfl ?_
            refine gf_X8_16 (n := 127) dX8_passOn_124 rfl ?_
            refine R_iload_n (n := 128) dX8_passOn_127 rfl rfl ?_
            refine R_bipush (v := nI 6) (n := 130) dX8_passOn_128 rfl rfl ?_
            refine R_iadd_n (n := 131) dX8_passOn_130 rfl ?_
            refine R_iload (n := 133) dX8_passOn_131 rfl rfl ?_
            refine R_iadd_n (n := 134) dX8_passOn_133 rfl ?_
            refine R_iald_e (n := 135) sh_128 (rfl) (by omega) dX8_passOn_134 rfl (h3 _ (by omega)) ?_
            refine iv_X8_104 (n := 138) (ct_X8_more _ _) (by decide) dX8_passOn_135 rfl (Nat.le_of_ble_eq_true rfl) (fun r μ' hq => ?_)
            obtain ⟨rfl, hq⟩ := hq
            have hq := hq.symm
            subst hq
            refine iv_X8_104 (n := 141) (ct_X8_more _ _) (by decide) dX8_passOn_138 rfl (Nat.le_of_ble_eq_true rfl) (fun r μ' hq => ?_)
            obtain ⟨rfl, hq⟩ := hq
            have hq := hq.symm
            subst hq
            refine R_iadd (n := 142) dX8_passOn_141 rfl ?_
            refine R_istore (n := 144) dX8_passOn_142 rfl (Nat.le_of_ble_eq_true rfl) (Nat.le_of_ble_eq_true rfl) ?_
            refine R_aload_n (n := 145) dX8_passOn_144 rfl rfl ?_
            refine gf_X8_16 (n := 148) dX8_passOn_145 rfl ?_
            refine R_iload_n (n := 149) dX8_passOn_148 rfl rfl ?_
            refine R_bipush (v := nI 6) (n := 151) dX8_passOn_149 rfl rfl ?_
            refine R_iadd_n (n := 152) dX8_passOn_151 rfl ?_
            refine R_iload (n := 154) dX8_passOn_152 rfl rfl ?_
            refine R_iadd_n (n := 155) dX8_passOn_154 rfl ?_
            refine R_iload (n := 157) dX8_passOn_155 rfl rfl ?_
            refine R_iast (n := 158) sh_128 (rfl) (by omega) dX8_passOn_157 rfl ?_
            refine R_aload_n (n := 159) dX8_passOn_158 rfl rfl ?_
            refine gf_X8_16 (n := 162) dX8_passOn_159 rfl ?_
            refine R_iload_n (n := 163) dX8_passOn_162 rfl rfl ?_
            refine R_bipush (v := nI 6) (n := 165) dX8_passOn_163 rfl rfl ?_
            refine R_iadd_n (n := 166) dX8_passOn_165 rfl ?_
            refine R_iload (n := 168) dX8_passOn_166 rfl rfl ?_
            refine R_iadd_n (n := 169) dX8_passOn_168 rfl ?_
            refine R_iload (n := 171) dX8_passOn_169 rfl rfl ?_
            refine R_iast (n := 172) sh_128 (rfl) (by omega) dX8_passOn_171 rfl ?_
            refine R_iload (n := 174) dX8_passOn_172 rfl rfl ?_
            refine R_if_eq_f (n := 177) dX8_passOn_174 rfl rfl (by decide) ?_
            generalize hH : nI 1 + mx h (mx (hrs (row p)) (hrs (row (p + 1)))) = hh at *
            have hh3 : ∀ j, j < n → (sti (sti μ1 128 (54 * lv + 6 + row p) hh) 128 (54 * lv + 6 + row (p + 1)) hh).1 128 (54 * lv + 6 + j) = upd (upd hrs (row p) hh) (row (p + 1)) hh j := by
              intro j hj
              rw [sti_1, sti_1]
              unfold upd
              by_cases e1 : j = row (p + 1)
              · rw [if_pos ⟨rfl, by omega⟩, if_pos e1]
              · rw [if_neg (by omega), if_neg e1]
                by_cases e2 : j = row p
                · rw [if_pos ⟨rfl, by omega⟩, if_pos e2]
                · rw [if_neg (by omega), if_neg e2]
                  exact h3 j hj
            have hh1 : ∀ q, q < z → (sti (sti μ1 128 (54 * lv + 6 + row p) hh) 128 (54 * lv + 6 + row (p + 1)) hh).1 128 (54 * lv + q) = nI (row q) := by
              intro q hq
              rw [sti_1_pf _ _ _ _ _ _ (by omega), sti_1_pf _ _ _ _ _ _ (by omega)]
              exact h1 q hq
            have hh4 : ∀ j, j < 6 → (sti (sti μ1 128 (54 * lv + 6 + row p) hh) 128 (54 * lv + 6 + row (p + 1)) hh).1 132 j = w j := by
              intro j hj
              rw [sti_1_ne _ _ _ (by omega), sti_1_ne _ _ _ (by omega)]
              exact h4 j hj
            have hh5 : (sti (sti μ1 128 (54 * lv + 6 + row p) hh) 128 (54 * lv + 6 + row (p + 1)) hh).1 128 (54 * lv + 53) = nI k := by
              rw [sti_1_pf _ _ _ _ _ _ (by omega), sti_1_pf _ _ _ _ _ _ (by omega)]
              exact h5
            have hh6 : Sme (Ppo lv) μ (sti (sti μ1 128 (54 * lv + 6 + row p) hh) 128 (54 * lv + 6 + row (p + 1)) hh) := (h6.sti (by omega)).sti (by omega)
            generalize sti (sti μ1 128 (54 * lv + 6 + row p) hh) 128 (54 * lv + 6 + row (p + 1)) hh = μ2 at *
            refine R_aload_n (n := 178) dX8_passOn_177 rfl rfl ?_
            refine gf_X8_28 (n := 181) dX8_passOn_178 rfl ?_
            refine R_iload (n := 183) dX8_passOn_181 rfl rfl ?_
            refine R_dup2 (n := 184) dX8_passOn_183 rfl rfl rfl ?_
            refine R_iald_e (n := 185) sh_132 (rfl) (by omega) dX8_passOn_184 rfl (hh4 _ (by omega)) ?_
            refine R_iconst (v := nI 1) (n := 186) dX8_passOn_185 rfl rfl ?_
            refine R_iload (n := 188) dX8_passOn_186 rfl rfl ?_
            refine R_ishl (n := 189) dX8_passOn_188 rfl ?_
            refine R_ior (n := 190) dX8_passOn_189 rfl ?_
            refine R_iast (n := 191) sh_132 (rfl) (by omega) dX8_passOn_190 rfl ?_
            have hw5 : (sti μ2 132 (row p) (w (row p) ||| nI 1 <<< (nI (row (p + 1)) &&& 31))).1 132 (row (p + 1)) = upd w (row p) (w (row p) ||| bt (row (p + 1))) (row (p + 1)) := by
              rw [sti_1]
              unfold upd
              by_cases e1 : row (p + 1) = row p
              · rw [if_pos ⟨rfl, e1⟩, if_pos e1]; rfl
              · rw [if_neg (fun z => e1 z.2), if_neg e1]; exact hh4 _ (by omega)
            refine R_aload_n (n := 192) dX8_passOn_191 rfl rfl ?_
            refine gf_X8_28 (n := 195) dX8_passOn_192 rfl ?_
            refine R_iload (n := 197) dX8_passOn_195 rfl rfl ?_
            refine R_dup2 (n := 198) dX8_passOn_197 rfl rfl rfl ?_
            refine R_iald_e (n := 199) sh_132 (rfl) (by omega) dX8_passOn_198 rfl (hw5) ?_
            refine R_iconst (v := nI 1) (n := 200) dX8_passOn_199 rfl rfl ?_
            refine R_iload (n := 202) dX8_passOn_200 rfl rfl ?_
            refine R_ishl (n := 203) dX8_passOn_202 rfl ?_
            refine R_ior (n := 204) dX8_passOn_203 rfl ?_
            refine R_iast (n := 205) sh_132 (rfl) (by omega) dX8_passOn_204 rfl ?_
            refine R_aload_n (n := 206) dX8_passOn_205 rfl rfl ?_
            refine R_iload_n (n := 207) dX8_passOn_206 rfl rfl ?_
            refine R_iload (n := 209) dX8_passOn_207 rfl rfl ?_
            refine R_iload (n := 211) dX8_passOn_209 rfl rfl ?_
            refine R_iload (n := 213) dX8_passOn_211 rfl rfl ?_
            have ww : ∀ j, j < 6 → (sti (sti μ2 132 (row p) (w (row p) ||| nI 1 <<< (nI (row (p + 1)) &&& 31))) 132 (row (p + 1)) (upd w (row p) (w (row p) ||| bt (row (p + 1))) (row (p + 1)) ||| nI 1 <<< (nI (row p) &&& 31))).1 132 j = upd (upd w (row p) (w (row p) ||| bt (row (p + 1)))) (row (p + 1)) (upd w (row p) (w (row p) ||| bt (row (p + 1))) (row (p + 1)) ||| bt (row p)) j := by
              intro j hj
              rw [sti_1, sti_1]
              unfold upd
              by_cases e1 : j = row (p + 1)
              · rw [if_pos ⟨rfl, e1⟩, if_pos e1]; rfl
              · rw [if_neg (fun z => e1 z.2), if_neg e1]
                by_cases e2 : j = row p
                · rw [if_pos ⟨rfl, e2⟩, if_pos e2]; rfl
                · rw [if_neg (fun z => e2 z.2), if_neg e2]; exact hh4 j hj
            have s7 : Sme (fun i _ => i = 132) μ2 (sti (sti μ2 132 (row p) (w (row p) ||| nI 1 <<< (nI (row (p + 1)) &&& 31))) 132 (row (p + 1)) (upd w (row p) (w (row p) ||| bt (row (p + 1))) (row (p + 1)) ||| nI 1 <<< (nI (row p) &&& 31))) := ((Sme.rf (fun i _ => i = 132) μ2).sti rfl).sti rfl
            generalize sti (sti μ2 132 (row p) (w (row p) ||| nI 1 <<< (nI (row (p + 1)) &&& 31))) 132 (row (p + 1)) (upd w (row p) (w (row p) ||| bt (row (p + 1))) (row (p + 1)) ||| nI 1 <<< (nI (row p) &&& 31)) = μ3 at *
            have g6 : Sme (Ppo lv) μ μ3 := hh6.tr (s7.mono (fun i j h => Or.inr (Or.inr h)))
            have g1 : ∀ q, q < z → μ3.1 128 (54 * lv + q) = nI (row q) := fun q hq => (s7.1 _ _ (by omega)).trans (hh1 q hq)
            have g3 : ∀ j, j < n → μ3.1 128 (54 * lv + 6 + j) = upd (upd hrs (row p) hh) (row (p + 1)) hh j := fun j hj => (s7.1 _ _ (by omega)).trans (hh3 j hj)
            have g5 : μ3.1 128 (54 * lv + 53) = nI k := (s7.1 _ _ (by omega)).trans hh5
            have hS3 : MSt μ3 128 (54 * lv) z (n, L, len, wt) (mkS row (upd (upd hrs (row p) hh) (row (p + 1)) hh) (sTea S) (sLaw S) (sGvn S) k) := by
              refine ⟨g1, g3, fun j hj => ?_, fun j hj => ?_, fun e he => ?_, g5⟩
              · dsimp only at hj
                exact (g6.1 _ _ (by omega)).trans (hSl j hj)
              · dsimp only at hj
                exact (g6.1 _ _ (by omega)).trans (hSt j hj)
              · exact (g6.1 _ _ (by omega)).trans (hSg e he)
            refine iv_X8_107 (n := 216) (ct_X8_isChanged hlv (hM.kept g6 (by omega) (by omega) (fun j => by omega) (fun j => by omega)) hS3 hn6 hL5 hlt hl4 hqr hq1) (by decide) dX8_passOn_213 rfl (Nat.le_of_ble_eq_true rfl) (fun r μ' hq => ?_)
            obtain ⟨rfl, hq⟩ := hq
            have hq := hq.symm
            subst hq
            rw [show swF (n, L, len, wt).2.2.2 (sLaw (mkS row (upd (upd hrs (row p) hh) (row (p + 1)) hh) (sTea S) (sLaw S) (sGvn S) k) k) (fun j => sGvn (mkS row (upd (upd hrs (row p) hh) (row (p + 1)) hh) (sTea S) (sLaw S) (sGvn S) k) (6 * k + j)) (row p) (row (p + 1)) = swF wt (sLaw S k) (fun j => sGvn S (6 * k + j)) (row p) (row (p + 1)) from rfl]
            refine R_istore (n := 218) dX8_passOn_216 rfl (Nat.le_of_ble_eq_true rfl) (Nat.le_of_ble_eq_true rfl) ?_
            refine R_aload_n (n := 219) dX8_passOn_218 rfl rfl ?_
            refine gf_X8_16 (n := 222) dX8_passOn_219 rfl ?_
            refine R_iload_n (n := 223) dX8_passOn_222 rfl rfl ?_
            refine R_iload (n := 225) dX8_passOn_223 rfl rfl ?_
            refine R_iadd_n (n := 226) dX8_passOn_225 rfl ?_
            refine R_iload (n := 228) dX8_passOn_226 rfl rfl ?_
            cases hw : swF wt (sLaw S k) (fun j => sGvn S (6 * k + j)) (row p) (row (p + 1)) with
            | true =>
              rw [if_pos hw] at hG
              refine R_if_eq_f (n := 231) dX8_passOn_228 rfl rfl (by decide) ?_
              refine R_iload (n := 233) dX8_passOn_231 rfl rfl ?_
              refine R_goto (tgt := 238) dX8_passOn_233 rfl ?_
              refine R_iast (n := 239) sh_128 (rfl) (by omega) dX8_passOn_238 rfl ?_
              refine R_aload_n (n := 240) dX8_passOn_239 rfl rfl ?_
              refine gf_X8_16 (n := 243) dX8_passOn_240 rfl ?_
              refine R_iload_n (n := 244) dX8_passOn_243 rfl rfl ?_
              refine R_iload (n := 246) dX8_passOn_244 rfl rfl ?_
              refine R_iadd_n (n := 247) dX8_passOn_246 rfl ?_
              refine R_iconst (v := nI 1) (n := 248) dX8_passOn_247 rfl rfl ?_
              refine R_iadd_n (n := 249) dX8_passOn_248 rfl ?_
              refine R_iload (n := 251) dX8_passOn_249 rfl rfl ?_
              refine R_if_eq_f (n := 254) dX8_passOn_251 rfl rfl (by decide) ?_
              refine R_iload (n := 256) dX8_passOn_254 rfl rfl ?_
              refine R_goto (tgt := 261) dX8_passOn_256 rfl ?_
              refine R_iast (n := 262) sh_128 (rfl) (by omega) dX8_passOn_261 rfl ?_
              refine R_iload (n := 264) dX8_passOn_262 rfl rfl ?_
              refine R_iload (n := 266) dX8_passOn_264 rfl rfl ?_
              refine R_if_eq_f (n := 269) dX8_passOn_266 rfl rfl (by decide) ?_
              refine R_iconst (v := nI 2) (n := 270) dX8_passOn_269 rfl rfl ?_
              refine R_goto (tgt := 274) dX8_passOn_270 rfl ?_
              refine R_iadd_n (n := 275) dX8_passOn_274 rfl ?_
              refine R_istore (n := 277) dX8_passOn_275 rfl (Nat.le_of_ble_eq_true rfl) (Nat.le_of_ble_eq_true rfl) ?_
              refine R_goto (tgt := 22) dX8_passOn_277 rfl ?_
              refine ih (p + 2) hh (swp row p) _ _ _ _ _ _ _ (by omega) (by omega) hG (fun q hq => ?_) (swp_lt hp1 h2) (fun j hj => ?_) (fun j hj => ?_) ?_ ((g6.sti (by omega)).sti (by omega))
              · rw [sti_1, sti_1]
                unfold swp
                by_cases e1 : q = p + 1
                · rw [if_pos ⟨rfl, by omega⟩, if_pos e1]
                · rw [if_neg (by omega), if_neg e1]
                  by_cases e2 : q = p
                  · rw [if_pos ⟨rfl, by omega⟩, if_pos e2]
                  · rw [if_neg (by omega), if_neg e2]; exact g1 q hq
              · rw [sti_1_pf _ _ _ _ _ _ (by omega), sti_1_pf _ _ _ _ _ _ (by omega)]; exact g3 j hj
              · rw [sti_1_pf _ _ _ _ _ _ (by omega), sti_1_pf _ _ _ _ _ _ (by omega)]; exact ww j hj
              · rw [sti_1_pf _ _ _ _ _ _ (by omega), sti_1_pf _ _ _ _ _ _ (by omega)]; exact g5
            | false =>
              rw [if_neg (by rw [hw]; decide)] at hG
              refine R_if_eq_t (tgt := 236) dX8_passOn_228 rfl (by decide) ?_
              refine R_iload (n := 238) dX8_passOn_236 rfl rfl ?_
              refine R_iast (n := 239) sh_128 (rfl) (by omega) dX8_passOn_238 rfl ?_
              refine R_aload_n (n := 240) dX8_passOn_239 rfl rfl ?_
              refine gf_X8_16 (n := 243) dX8_passOn_240 rfl ?_
              refine R_iload_n (n := 244) dX8_passOn_243 rfl rfl ?_
              refine R_iload (n := 246) dX8_passOn_244 rfl rfl ?_
              refine R_iadd_n (n := 247) dX8_passOn_246 rfl ?_
              refine R_iconst (v := nI 1) (n := 248) dX8_passOn_247 rfl rfl ?_
              refine R_iadd_n (n := 249) dX8_passOn_248 rfl ?_
              refine R_iload (n := 251) dX8_passOn_249 rfl rfl ?_
              refine R_if_eq_t (tgt := 259) dX8_passOn_251 rfl (by decide) ?_
              refine R_iload (n := 261) dX8_passOn_259 rfl rfl ?_
              refine R_iast (n := 262) sh_128 (rfl) (by omega) dX8_passOn_261 rfl ?_
              refine R_iload (n := 264) dX8_passOn_262 rfl rfl ?_
              refine R_iload (n := 266) dX8_passOn_264 rfl rfl ?_
              refine R_if_eq_f (n := 269) dX8_passOn_266 rfl rfl (by decide) ?_
              refine R_iconst (v := nI 2) (n := 270) dX8_passOn_269 rfl rfl ?_
              refine R_goto (tgt := 274) dX8_passOn_270 rfl ?_
              refine R_iadd_n (n := 275) dX8_passOn_274 rfl ?_
              refine R_istore (n := 277) dX8_passOn_275 rfl (Nat.le_of_ble_eq_true rfl) (Nat.le_of_ble_eq_true rfl) ?_
              refine R_goto (tgt := 22) dX8_passOn_277 rfl ?_
              refine ih (p + 2) hh row _ _ _ _ _ _ _ (by omega) (by omega) hG (fun q hq => ?_) h2 (fun j hj => ?_) (fun j hj => ?_) ?_ ((g6.sti (by omega)).sti (by omega))
              · rw [sti_1, sti_1]
                by_cases e1 : q = p + 1
                · rw [if_pos ⟨rfl, by omega⟩, e1]
                · rw [if_neg (by omega)]
                  by_cases e2 : q = p
                  · rw [if_pos ⟨rfl, by omega⟩, e2]
                  · rw [if_neg (by omega)]; exact g1 q hq
              · rw [sti_1_pf _ _ _ _ _ _ (by omega), sti_1_pf _ _ _ _ _ _ (by omega)]; exact g3 j hj
              · rw [sti_1_pf _ _ _ _ _ _ (by omega), sti_1_pf _ _ _ _ _ _ (by omega)]; exact ww j hj
              · rw [sti_1_pf _ _ _ _ _ _ (by omega), sti_1_pf _ _ _ _ _ _ (by omega)]; exact g5
          · have hb0 : bb = 0 := by omega
            subst hb0
            have ht := b0 rfl
            rw [goL_one hp ht] at hG
            refine R_istore (n := 85) dX8_passOn_83 rfl (Nat.le_of_ble_eq_true rfl) (Nat.le_of_ble_eq_true rfl) ?_
            refine R_iload (n := 87) dX8_passOn_85 rfl rfl ?_
            refine R_if_eq_t (tgt := 104) dX8_passOn_87 rfl (by decide) ?_
            refine R_iload (n := 106) dX8_passOn_104 rfl rfl ?_
            refine R_istore (n := 108) dX8_passOn_106 rfl (Nat.le_of_ble_eq_true rfl) (Nat.le_of_ble_eq_true rfl) ?_
            refine R_iconst (v := nI 1) (n := 109) dX8_passOn_108 rfl rfl ?_
            refine R_iload (n := 111) dX8_passOn_109 rfl rfl ?_
            refine R_aload_n (n := 112) dX8_passOn_111 rfl rfl ?_
            refine gf_X8_16 (n := 115) dX8_passOn_112 rfl ?_
            refine R_iload_n (n := 116) dX8_passOn_115 rfl rfl ?_
            refine R_bipush (v := nI 6) (n := 118) dX8_passOn_116 rfl rfl ?_
            refine R_iadd_n (n := 119) dX8_passOn_118 rfl ?_
            refine R_iload (n := 121) dX8_passOn_119 rfl rfl ?_
            refine R_iadd_n (n := 122) dX8_passOn_121 rfl ?_
            refine R_iald_e (n := 123) sh_128 (rfl) (by omega) dX8_passOn_122 rfl (h3 _ (by omega)) ?_
            refine R_aload_n (n := 124) dX8_passOn_123 rfl rfl ?_
            refine gf_X8_16 (n := 127) dX8_passOn_124 rfl ?_
            refine R_iload_n (n := 128) dX8_passOn_127 rfl rfl ?_
            refine R_bipush (v := nI 6) (n := 130) dX8_passOn_128 rfl rfl ?_
            refine R_iadd_n (n := 131) dX8_passOn_130 rfl ?_
            refine R_iload (n := 133) dX8_passOn_131 rfl rfl ?_
            refine R_iadd_n (n := 134) dX8_passOn_133 rfl ?_
            refine R_iald_e (n := 135) sh_128 (rfl) (by omega) dX8_passOn_134 rfl (h3 _ (by omega)) ?_
            refine iv_X8_104 (n := 138) (ct_X8_more _ _) (by decide) dX8_passOn_135 rfl (Nat.le_of_ble_eq_true rfl) (fun r μ' hq => ?_)
            obtain ⟨rfl, hq⟩ := hq
            have hq := hq.symm
            subst hq
            refine iv_X8_104 (n := 141) (ct_X8_more _ _) (by decide) dX8_passOn_138 rfl (Nat.le_of_ble_eq_true rfl) (fun r μ' hq => ?_)
            obtain ⟨rfl, hq⟩ := hq
            have hq := hq.symm
            subst hq
            refine R_iadd (n := 142) dX8_passOn_141 rfl ?_
            refine R_istore (n := 144) dX8_passOn_142 rfl (Nat.le_of_ble_eq_true rfl) (Nat.le_of_ble_eq_true rfl) ?_
            refine R_aload_n (n := 145) dX8_passOn_144 rfl rfl ?_
            refine gf_X8_16 (n := 148) dX8_passOn_145 rfl ?_
            refine R_iload_n (n := 149) dX8_passOn_148 rfl rfl ?_
            refine R_bipush (v := nI 6) (n := 151) dX8_passOn_149 rfl rfl ?_
            refine R_iadd_n (n := 152) dX8_passOn_151 rfl ?_
            refine R_iload (n := 154) dX8_passOn_152 rfl rfl ?_
            refine R_iadd_n (n := 155) dX8_passOn_154 rfl ?_
            refine R_iload (n := 157) dX8_passOn_155 rfl rfl ?_
            refine R_iast (n := 158) sh_128 (rfl) (by omega) dX8_passOn_157 rfl ?_
            refine R_aload_n (n := 159) dX8_passOn_158 rfl rfl ?_
            refine gf_X8_16 (n := 162) dX8_passOn_159 rfl ?_
            refine R_iload_n (n := 163) dX8_passOn_162 rfl rfl ?_
            refine R_bipush (v := nI 6) (n := 165) dX8_passOn_163 rfl rfl ?_
            refine R_iadd_n (n := 166) dX8_passOn_165 rfl ?_
            refine R_iload (n := 168) dX8_passOn_166 rfl rfl ?_
            refine R_iadd_n (n := 169) dX8_passOn_168 rfl ?_
            refine R_iload (n := 171) dX8_passOn_169 rfl rfl ?_
            refine R_iast (n := 172) sh_128 (rfl) (by omega) dX8_passOn_171 rfl ?_
            refine R_iload (n := 174) dX8_passOn_172 rfl rfl ?_
            refine R_if_eq_t (tgt := 262) dX8_passOn_174 rfl (by decide) ?_
            refine R_iload (n := 264) dX8_passOn_262 rfl rfl ?_
            refine R_iload (n := 266) dX8_passOn_264 rfl rfl ?_
            refine R_if_eq_t (tgt := 273) dX8_passOn_266 rfl (by decide) ?_
            refine R_iconst (v := nI 1) (n := 274) dX8_passOn_273 rfl rfl ?_
            refine R_iadd_n (n := 275) dX8_passOn_274 rfl ?_
            refine R_istore (n := 277) dX8_passOn_275 rfl (Nat.le_of_ble_eq_true rfl) (Nat.le_of_ble_eq_true rfl) ?_
            refine R_goto (tgt := 22) dX8_passOn_277 rfl ?_
            refine ih (p + 1) _ row _ _ _ _ _ _ _ (by omega) (by omega) hG (fun q hq => ?_) h2 (fun j hj => ?_) (fun j hj => ?_) ?_ ((h6.sti (by omega)).sti (by omega))
            · rw [sti_1_pf _ _ _ _ _ _ (by omega), sti_1_pf _ _ _ _ _ _ (by omega)]; exact h1 q hq
            · rw [sti_1, sti_1]
              unfold upd
              by_cases e1 : j = row p
              · rw [if_pos ⟨rfl, by omega⟩, if_pos e1]
              · rw [if_neg (by omega), if_neg e1, if_neg (by omega), if_neg e1]
                exact h3 j hj
            · rw [sti_1_pf _ _ _ _ _ _ (by omega), sti_1_pf _ _ _ _ _ _ (by omega)]; exact h4 j hj
            · rw [sti_1_pf _ _ _ _ _ _ (by omega), sti_1_pf _ _ _ _ _ _ (by omega)]; exact h5
        refine R_icmp_ne (n := 50) (tgt := 82) dX8_passOn_47 rfl rfl (fun e1 => ?_) (fun e1 => ?_)
        · refine R_iconst (v := nI 0) (n := 83) dX8_passOn_82 rfl rfl ?_
          exact two 0 hq (fun z => by omega) (fun _ => by rw [twoF, decide_eq_false (p := len (row p) = nI 1) e1, Bool.false_and, Bool.and_false]) (by omega)
        · refine R_iload (n := 52) dX8_passOn_50 rfl rfl ?_
          refine R_iconst (v := nI 1) (n := 53) dX8_passOn_52 rfl rfl ?_
          refine R_iadd_n (n := 54) dX8_passOn_53 rfl ?_
          refine R_iload_n (n := 55) dX8_passOn_54 rfl rfl ?_
          refine R_icmp_ge (n := 58) (tgt := 82) dX8_passOn_55 rfl rfl (fun e2 => ?_) (fun e2 => ?_)
          · rw [nI_leI (by omega) (by omega)] at e2
            refine R_iconst (v := nI 0) (n := 83) dX8_passOn_82 rfl rfl ?_
            exact two 0 hq (fun z => by omega) (fun _ => by rw [twoF, decide_eq_false (by omega)]; rfl) (by omega)
          · rw [nI_leI (by omega) (by omega)] at e2
            have hq1 := h2 (p + 1) (by omega)
            refine R_aload_n (n := 59) dX8_passOn_58 rfl rfl ?_
            refine gf_X8_7 (n := 62) dX8_passOn_59 rfl ?_
            refine R_aload_n (n := 63) dX8_passOn_62 rfl rfl ?_
            refine gf_X8_16 (n := 66) dX8_passOn_63 rfl ?_
            refine R_iload_n (n := 67) dX8_passOn_66 rfl rfl ?_
            refine R_iload (n := 69) dX8_passOn_67 rfl rfl ?_
            refine R_iadd_n (n := 70) dX8_passOn_69 rfl ?_
            refine R_iconst (v := nI 1) (n := 71) dX8_passOn_70 rfl rfl ?_
            refine R_iadd_n (n := 72) dX8_passOn_71 rfl ?_
            refine R_iald_e (n := 73) sh_128 (rfl) (by omega) dX8_passOn_72 rfl (h1 (p + 1) (by omega)) ?_
            refine R_iald_e (n := 74) sh_126 (rfl) (by omega) dX8_passOn_73 rfl (hll _ (by omega)) ?_
            refine R_iconst (v := nI 1) (n := 75) dX8_passOn_74 rfl rfl ?_
            refine R_icmp_ne (n := 78) (tgt := 82) dX8_passOn_75 rfl rfl (fun e3 => ?_) (fun e3 => ?_)
            · refine R_iconst (v := nI 0) (n := 83) dX8_passOn_82 rfl rfl ?_
              exact two 0 hq (fun z => by omega) (fun _ => by rw [twoF, decide_eq_false (p := len (row (p + 1)) = nI 1) e3, Bool.and_false, Bool.and_false]) (by omega)
            · refine R_iconst (v := nI 1) (n := 79) dX8_passOn_78 rfl rfl ?_
              refine R_goto (tgt := 83) dX8_passOn_79 rfl ?_
              exact two 1 hq (fun _ => by rw [twoF, decide_eq_true e1, decide_eq_true e3, decide_eq_true (by omega)]; rfl) (fun z => by omega) (by omega)
      · rw [goL_end hp] at hG
        exact fin p h μ1 _ _ _ _ (by omega) (fun q hq => by rw [h1 q hq, ← hG]) (fun j hj => by rw [h3 j hj, ← hG]) (fun j hj => by rw [h4 j hj, ← hG]) h6 h5
  exact loop z 0 _ _ _ _ μ _ _ _ _ (Nat.zero_le _) (by omega) hR hSr hrow hSh hw hSp (Sme.rf _ _)
end M2

