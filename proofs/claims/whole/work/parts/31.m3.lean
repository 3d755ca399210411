theorem or_0 (x : Int32) : x ||| nI 0 = x := by
  apply Int32.toBitVec_inj.mp
  rw [Int32.toBitVec_or]
  exact BitVec.or_zero
theorem goL_abs {len wt : Nat → Int32} {law : Nat} {g : Nat → Int32} {z v : Nat} : ∀ (f p : Nat) (hour : Int32) (row : Nat → Nat) (hrs w : Nat → Int32), (∀ q, p ≤ q → q < z → row q ≠ v) → (goL len wt law g z f p hour row hrs w).2.2 v = w v := by
  intro f
  induction f with
  | zero => intro p hour row hrs w h; rfl
  | succ f ih =>
    intro p hour row hrs w h
    by_cases hp : p < z
    · cases ht : twoF len row z p with
      | true =>
        have hp1 : p + 1 < z := by
          rw [twoF, Bool.and_eq_true] at ht
          exact of_decide_eq_true ht.1
        rw [goL_two hp ht, ih]
        · unfold upd
          rw [if_neg (fun e => h (p + 1) (by omega) hp1 e.symm), if_neg (fun e => h p (by omega) hp e.symm)]
        · intro q hq hqz
          split
          · unfold swp
            rw [if_neg (by omega), if_neg (by omega)]
            exact h q (by omega) hqz
          · exact h q (by omega) hqz
      | false =>
        rw [goL_one hp ht, ih]
        intro q hq hqz
        exact h q (by omega) hqz
    · rw [goL_end hp]
theorem mtL_congr {len : Nat → Int32} {z v : Nat} {row row' : Nat → Nat} : ∀ (f p : Nat), (∀ q, p ≤ q → row q = row' q) → mtL len row z v f p = mtL len row' z v f p := by
  intro f
  induction f with
  | zero => intro p h; rfl
  | succ f ih =>
    intro p h
    rw [mtL, mtL, h p (Nat.le_refl _), h (p + 1) (by omega), ih (p + 1) (fun q hq => h q (by omega)), ih (p + 2) (fun q hq => h q (by omega)), show twoF len row z p = twoF len row' z p by rw [twoF, twoF, h p (Nat.le_refl _), h (p + 1) (by omega)]]
theorem goL_wth {len wt : Nat → Int32} {law : Nat} {g : Nat → Int32} {z v : Nat} : ∀ (f p : Nat) (hour : Int32) (row : Nat → Nat) (hrs w : Nat → Int32), (∀ q r, p ≤ q → q < z → p ≤ r → r < z → row q = row r → q = r) → (goL len wt law g z f p hour row hrs w).2.2 v = match mtL len row z v f p with
    | none => w v
    | some m => w v ||| bt m := by
  intro f
  induction f with
  | zero => intro p hour row hrs w h; rfl
  | succ f ih =>
    intro p hour row hrs w h
    by_cases hp : p < z
    · cases ht : twoF len row z p with
      | true =>
        have hp1 : p + 1 < z := by
          rw [twoF, Bool.and_eq_true] at ht
          exact of_decide_eq_true ht.1
        have hne : row p ≠ row (p + 1) := fun e => absurd (h p (p + 1) (by omega) hp (by omega) hp1 e) (by omega)
        have hrow' : ∀ q, p + 2 ≤ q → (if swF wt law g (row p) (row (p + 1)) = true then swp row p else row) q = row q := by
          intro q hq
          split
          · unfold swp; rw [if_neg (by omega), if_neg (by omega)]
          · rfl
        rw [goL_two hp ht, mtL, if_pos hp, if_pos ht]
        by_cases e1 : row p = v
        · rw [if_pos e1, goL_abs]
          · show upd _ _ _ v = _
            unfold upd
            rw [if_neg (fun e => hne (e1.trans e)), if_pos e1.symm, e1]
          · intro q hq hqz
            rw [hrow' q hq]
            exact fun e => absurd (h q p (by omega) hqz (by omega) hp (e.trans e1.symm)) (by omega)
        · rw [if_neg e1]
          by_cases e2 : row (p + 1) = v
          · rw [if_pos e2, goL_abs]
            · show upd _ _ _ v = _
              unfold upd
              rw [if_pos e2.symm, if_neg (fun e => hne e.symm), e2]
            · intro q hq hqz
              rw [hrow' q hq]
              exact fun e => absurd (h q (p + 1) (by omega) hqz (by omega) hp1 (e.trans e2.symm)) (by omega)
          · rw [if_neg e2, ih]
            · rw [mtL_congr f (p + 2) hrow']
              have ew : upd (upd w (row p) (w (row p) ||| bt (row (p + 1)))) (row (p + 1)) (upd w (row p) (w (row p) ||| bt (row (p + 1))) (row (p + 1)) ||| bt (row p)) v = w v := by
                unfold upd
                rw [if_neg (fun e => e2 e.symm), if_neg (fun e => e1 e.symm)]
              rw [ew]
            · intro q r hq hqz hr hrz e
              rw [hrow' q hq, hrow' r hr] at e
              exact h q r (by omega) hqz (by omega) hrz e
      | false =>
        rw [goL_one hp ht, mtL, if_pos hp, if_neg (by rw [ht]; decide), ih]
        intro q r hq hqz hr hrz e
        exact h q r (by omega) hqz (by omega) hrz e
    · rw [goL_end hp, mtL, if_neg hp]
theorem gosW_mts {C : CF} {v : Nat} : ∀ (k : Nat) (S : ST) (w : Nat → Int32), Pm C.1 (sRow S) → gosW C C.1 k S w v = mtsL C v k S (w v)
  | 0, _, _, _ => rfl
  | k + 1, S, w, h => by
    rw [gosW, mtsL, gosW_mts k _ _ (pm_pass1 h)]
    congr 1
    exact goL_wth _ _ _ _ _ _ (fun q r _ hq _ hr e => h.2.1 q r hq hr e)
abbrev Ptm : Nat → Nat → Prop := fun i j => (i = 128 ∧ 54 ≤ j) ∨ i = 132
def QM (μ : Mem) (C : CF) (S : ST) : Prop := MCf μ C ∧ MSt μ 128 0 C.1 C S ∧ Ok C C.1 S ∧ Pm C.1 (sRow S)
abbrev Qrm : Nat → Nat → Prop := fun i j => (i = 128 ∧ 54 ≤ j) ∨ i = 129 ∨ i = 130 ∨ i = 132 ∨ (134 ≤ i ∧ i ≤ 136) ∨ (i = 125 ∧ (j = 7 ∨ j = 8 ∨ j = 11 ∨ j = 12))
theorem QM.kept {μ μ1 : Mem} {C : CF} {S : ST} (h : QM μ C S) (hs : Sme Qrm μ μ1) : QM μ1 C S :=
  ⟨h.1.kept hs (by omega) (by omega) (fun j => by omega) (fun j => by omega), h.2.1.kept ⟨h.2.2.1.1, h.2.2.1.2.1, h.2.2.1.1⟩ hs (fun j z1 z2 => by omega), h.2.2⟩
theorem Sme.qm {μ μ1 : Mem} (h : Sme Ptm μ μ1) : Sme Qrm μ μ1 := h.mono (fun i j z => by omega)
section M3
variable {G : Gm} {l : Launch} {μ : Mem} {C : CF} {S : ST} {z : Nat}
theorem ct_X8_layTrial (hQ : QM μ C S) : Ct G l 1 yX8_layTrial cX8_layTrial 2 none [.ref (G.2.2.1 125)] μ (fun r μ' => r = none ∧ (∀ k, k < 54 → μ'.1 128 (54 + k) = μ.1 128 k) ∧ MSt μ' 128 54 C.1 C S ∧ (∀ j, j < 6 → μ'.1 132 j = nI 0) ∧ Sme Ptm μ μ') := by
  refine Ct.of 1 (by decide +kernel) rfl (Nat.le_of_ble_eq_true rfl) ?_
  show V G l RX8 cX8_layTrial 2 _ false none _ 0 [some (.ref _), none] [] _
  refine R_iconst (v := nI 0) (n := 1) dX8_layTrial_0 rfl rfl ?_
  refine R_istore_n (n := 2) dX8_layTrial_1 rfl (Nat.le_of_ble_eq_true rfl) (Nat.le_of_ble_eq_true rfl) ?_
  refine down (z := 54) (P := fun k => ∀ μ1 : Mem, (∀ j, j < k → μ1.1 128 (54 + j) = μ.1 128 j) → Sme Ptm μ μ1 → V G l RX8 cX8_layTrial 2 1 false _ _ 2 [some (.ref _), some (.int (nI k))] [] μ1) ?_ ?_ 0 (Nat.zero_le _) μ (fun j h => absurd h (by omega)) (Sme.rf _ _)
  · intro μ1 h1 h2
    refine R_iload_n (n := 3) dX8_layTrial_2 rfl rfl ?_
    refine R_bipush (v := nI 54) (n := 5) dX8_layTrial_3 rfl rfl ?_
    refine R_icmp_ge_t (tgt := 29) dX8_layTrial_5 rfl (by rw [nI_leI (by omega) (by omega)]; omega) ?_
    refine R_iconst (v := nI 0) (n := 30) dX8_layTrial_29 rfl rfl ?_
    refine R_istore_n (n := 31) dX8_layTrial_30 rfl (Nat.le_of_ble_eq_true rfl) (Nat.le_of_ble_eq_true rfl) ?_
    refine down (z := 6) (P := fun k => ∀ μ2 : Mem, (∀ j, j < k → μ2.1 132 j = nI 0) → Sme (fun i _ => i = 132) μ1 μ2 → V G l RX8 cX8_layTrial 2 1 false _ _ 31 [some (.ref _), some (.int (nI k))] [] μ2) ?_ ?_ 0 (Nat.zero_le _) μ1 (fun j h => absurd h (by omega)) (Sme.rf _ _)
    · intro μ2 h3 h4
      refine R_iload_n (n := 32) dX8_layTrial_31 rfl rfl ?_
      refine R_bipush (v := nI 6) (n := 34) dX8_layTrial_32 rfl rfl ?_
      refine R_icmp_ge_t (tgt := 50) dX8_layTrial_34 rfl (by rw [nI_leI (by omega) (by omega)]; omega) ?_
      have e : ∀ k, k < 54 → μ2.1 128 (54 + k) = μ.1 128 k := fun k hk => (h4.1 _ _ (by omega)).trans (h1 k hk)
      refine R_ret dX8_layTrial_50 rfl (⟨rfl, e, mst_cpy hQ.2.1 ⟨hQ.2.2.1.1, hQ.2.2.1.2.1, hQ.2.2.1.1⟩ (fun k hk => by rw [Nat.zero_add]; exact e k hk), h3, h2.tr (h4.mono (fun i j z => Or.inr z))⟩)
    · intro k hk ih μ2 h3 h4
      refine R_iload_n (n := 32) dX8_layTrial_31 rfl rfl ?_
      refine R_bipush (v := nI 6) (n := 34) dX8_layTrial_32 rfl rfl ?_
      refine R_icmp_ge_f (n := 37) dX8_layTrial_34 rfl rfl (by rw [nI_leI (by omega) (by omega)]; omega) ?_
      refine R_aload_n (n := 38) dX8_layTrial_37 rfl rfl ?_
      refine gf_X8_28 (n := 41) dX8_layTrial_38 rfl ?_
      refine R_iload_n (n := 42) dX8_layTrial_41 rfl rfl ?_
      refine R_iconst (v := nI 0) (n := 43) dX8_layTrial_42 rfl rfl ?_
      refine R_iast (n := 44) sh_132 (rfl) (by omega) dX8_layTrial_43 rfl ?_
      refine R_iinc (n := 47) dX8_layTrial_44 rfl rfl (nI_1 _) (Nat.le_of_ble_eq_true rfl) ?_
      refine R_goto (tgt := 31) dX8_layTrial_47 rfl ?_
      refine ih _ (fun j hj => ?_) (h4.sti rfl)
      rw [sti_1]
      by_cases e : j = k
      · rw [if_pos ⟨rfl, e⟩]
      · rw [if_neg (fun z => e z.2)]; exact h3 j (by omega)
  · intro k hk ih μ1 h1 h2
    refine R_iload_n (n := 3) dX8_layTrial_2 rfl rfl ?_
    refine R_bipush (v := nI 54) (n := 5) dX8_layTrial_3 rfl rfl ?_
    refine R_icmp_ge_f (n := 8) dX8_layTrial_5 rfl rfl (by rw [nI_leI (by omega) (by omega)]; omega) ?_
    refine R_aload_n (n := 9) dX8_layTrial_8 rfl rfl ?_
    refine gf_X8_16 (n := 12) dX8_layTrial_9 rfl ?_
    refine R_bipush (v := nI 54) (n := 14) dX8_layTrial_12 rfl rfl ?_
    refine R_iload_n (n := 15) dX8_layTrial_14 rfl rfl ?_
    refine R_iadd_n (n := 16) dX8_layTrial_15 rfl ?_
    refine R_aload_n (n := 17) dX8_layTrial_16 rfl rfl ?_
    refine gf_X8_16 (n := 20) dX8_layTrial_17 rfl ?_
    refine R_iload_n (n := 21) dX8_layTrial_20 rfl rfl ?_
    refine R_iald (n := 22) sh_128 (rfl) (by omega) dX8_layTrial_21 rfl ?_
    refine R_iast (n := 23) sh_128 (rfl) (by omega) dX8_layTrial_22 rfl ?_
    refine R_iinc (n := 26) dX8_layTrial_23 rfl rfl (nI_1 _) (Nat.le_of_ble_eq_true rfl) ?_
    refine R_goto (tgt := 2) dX8_layTrial_26 rfl ?_
    refine ih _ (fun j hj => ?_) (h2.sti (by omega))
    rw [sti_1]
    by_cases e : j = k
    · rw [if_pos ⟨rfl, by omega⟩, h2.1 _ _ (by omega), e]
    · rw [if_neg (by omega)]; exact h1 j (by omega)
theorem ct_X8_passAll {T : ST} {w0 : Nat → Int32} (hM : MCf μ C) (hT : MSt μ 128 54 z C T) (hw : ∀ j, j < 6 → μ.1 132 j = w0 j) (hO : Ok C z T) : Ct G l 3 yX8_passAll cX8_passAll 2 none [.ref (G.2.2.1 125), .int (nI z)] μ (fun r μ' => r = none ∧ MSt μ' 128 54 z C (gos C z (C.2.1 - sPsd T) T) ∧ (∀ j, j < 6 → μ'.1 132 j = gosW C z (C.2.1 - sPsd T) T w0 j) ∧ Sme Ptm μ μ') := by
  have hL5 := hO.2.1
  have hp6 := hO.2.2.2.2.2
  refine Ct.of 0 (by decide +kernel) rfl (Nat.le_of_ble_eq_true rfl) ?_
  show V G l RX8 cX8_passAll 2 _ false none _ 0 [some (.ref _), some (.int _)] [] _
  have loop : ∀ (f : Nat) (T1 : ST) (w : Nat → Int32) (μ1 : Mem), sPsd T1 + f = C.2.1 → MSt μ1 128 54 z C T1 → (∀ j, j < 6 → μ1.1 132 j = w j) → Ok C z T1 → gos C z f T1 = gos C z (C.2.1 - sPsd T) T → gosW C z f T1 w = gosW C z (C.2.1 - sPsd T) T w0 → Sme Ptm μ μ1 → V G l RX8 cX8_passAll 2 3 false none (fun r μ' => r = none ∧ MSt μ' 128 54 z C (gos C z (C.2.1 - sPsd T) T) ∧ (∀ j, j < 6 → μ'.1 132 j = gosW C z (C.2.1 - sPsd T) T w0 j) ∧ Sme Ptm μ μ') 0 [some (.ref (G.2.2.1 125)), some (.int (nI z))] [] μ1 := by
    intro f
    induction f with
    | zero =>
      intro T1 w μ1 h1 h2 h3 h4 h5 h6 h7
      have hM1 := hM.kept h7 (by omega) (by omega) (fun j => by omega) (fun j => by omega)
      refine R_aload_n (n := 1) dX8_passAll_0 rfl rfl ?_
      refine gf_X8_16 (n := 4) dX8_passAll_1 rfl ?_
      refine R_bipush (v := nI 107) (n := 6) dX8_passAll_4 rfl rfl ?_
      refine R_iald_e (n := 7) sh_128 (rfl) (by omega) dX8_passAll_6 rfl (h2.2.2.2.2.2) ?_
      refine R_aload_n (n := 8) dX8_passAll_7 rfl rfl ?_
      refine ge_X8_50 (n := 11) dX8_passAll_8 rfl (hM1.1) ?_
      refine R_icmp_ge_t (tgt := 23) dX8_passAll_11 rfl (by rw [nI_leI (by omega) (by omega)]; omega) ?_
      refine R_ret dX8_passAll_23 rfl (⟨rfl, h5 ▸ h2, h6 ▸ h3, h7⟩)
    | succ f ih =>
      intro T1 w μ1 h1 h2 h3 h4 h5 h6 h7
      have hM1 := hM.kept h7 (by omega) (by omega) (fun j => by omega) (fun j => by omega)
      refine R_aload_n (n := 1) dX8_passAll_0 rfl rfl ?_
      refine gf_X8_16 (n := 4) dX8_passAll_1 rfl ?_
      refine R_bipush (v := nI 107) (n := 6) dX8_passAll_4 rfl rfl ?_
      refine R_iald_e (n := 7) sh_128 (rfl) (by omega) dX8_passAll_6 rfl (h2.2.2.2.2.2) ?_
      refine R_aload_n (n := 8) dX8_passAll_7 rfl rfl ?_
      refine ge_X8_50 (n := 11) dX8_passAll_8 rfl (hM1.1) ?_
      refine R_icmp_ge_f (n := 14) dX8_passAll_11 rfl rfl (by rw [nI_leI (by omega) (by omega)]; omega) ?_
      refine R_aload_n (n := 15) dX8_passAll_14 rfl rfl ?_
      refine R_iconst (v := nI 1) (n := 16) dX8_passAll_15 rfl rfl ?_
      refine R_iload_n (n := 17) dX8_passAll_16 rfl rfl ?_
      refine iv_X8_117 (n := 20) (ct_X8_passOn (lv := 1) (by omega) hM1 h2 h3 h4 (by omega)) (by decide) dX8_passAll_17 rfl (Nat.le_of_ble_eq_true rfl) (fun r μ' hq => ?_)
      obtain ⟨rfl, g1, g2, g3⟩ := hq
      refine R_goto (tgt := 0) dX8_passAll_20 rfl ?_
      exact ih (pass1 C z T1) (goW C z T1 w) _ (by rw [sPsd_pass1]; omega) g1 g2 (ok_pass1 h4 (by omega)) h5 h6 (h7.tr (g3.mono (fun i j h => by omega)))
  exact loop (C.2.1 - sPsd T) T w0 μ (by omega) hT hw hO rfl rfl (Sme.rf _ _)
theorem ct_X8_layBasin (hQ : QM μ C S) : Ct G l 4 yX8_layBasin cX8_layBasin 1 none [.ref (G.2.2.1 125)] μ (fun r μ' => r = none ∧ MSt μ' 128 54 C.1 C (bas C S) ∧ (∀ j, j < 6 → μ'.1 132 j = gosW C C.1 (C.2.1 - sPsd S) S (fun _ => nI 0) j) ∧ Sme Ptm μ μ') := by
  refine Ct.of 0 (by decide +kernel) rfl (Nat.le_of_ble_eq_true rfl) ?_
  show V G l RX8 cX8_layBasin 1 _ false none _ 0 [some (.ref _)] [] _
  refine R_aload_n (n := 1) dX8_layBasin_0 rfl rfl ?_
  refine iv_X8_126 (n := 4) (ct_X8_layTrial hQ) (by decide) dX8_layBasin_1 rfl (Nat.le_of_ble_eq_true rfl) (fun r μ' hq => ?_)
  obtain ⟨rfl, -, g1, g2, g3⟩ := hq
  have hM1 := hQ.1.kept g3 (by omega) (by omega) (fun j => by omega) (fun j => by omega)
  refine R_aload_n (n := 5) dX8_layBasin_4 rfl rfl ?_
  refine R_aload_n (n := 6) dX8_layBasin_5 rfl rfl ?_
  refine ge_X8_83 (n := 9) dX8_layBasin_6 rfl (hM1.2.1) ?_
  refine iv_X8_129 (n := 12) (ct_X8_passAll hM1 g1 g2 hQ.2.2.1) (by decide) dX8_layBasin_9 rfl (Nat.le_of_ble_eq_true rfl) (fun r μ' hq => ?_)
  obtain ⟨rfl, f1, f2, f3⟩ := hq
  refine R_ret dX8_layBasin_12 rfl (⟨rfl, f1, f2, g3.tr f3⟩)
theorem ct_X8_isSo {T : ST} {w0 : Nat → Int32} {one other : Nat} (hM : MCf μ C) (hT : MSt μ 128 54 C.1 C T) (hO : Ok C C.1 T) (h1 : one < C.1) (h2 : other < C.1) : Ct G l 4 yX8_isSo cX8_isSo 3 (some .boolean) [.ref (G.2.2.1 125), .int (nI one), .int (nI other)] μ (fun r μ' => r = some (.int (bi (suF C T one other))) ∧ Sme Ptm μ μ') := by
  obtain ⟨o1, o2, o3, o4, o5, o6⟩ := id hO
  have hOb := ok_gos (C.2.1 - sPsd T) T hO (by omega)
  have r0 : sRow (bas C T) 0 < C.1 := hOb.2.2.2.1 0 (by omega)
  have r1 : sRow (bas C T) (C.1 - 1) < C.1 := hOb.2.2.2.1 (C.1 - 1) (by omega)
  refine Ct.of 0 (by decide +kernel) rfl (Nat.le_of_ble_eq_true rfl) ?_
  show V G l RX8 cX8_isSo 3 _ false _ _ 0 [some (.ref _), some (.int _), some (.int _)] [] _
  refine R_aload_n (n := 1) dX8_isSo_0 rfl rfl ?_
  refine R_aload_n (n := 2) dX8_isSo_1 rfl rfl ?_
  refine ge_X8_83 (n := 5) dX8_isSo_2 rfl (hM.2.1) ?_
  refine iv_X8_129 (n := 8) (ct_X8_passAll (w0 := μ.1 132) hM hT (fun j hj => rfl) hO) (by decide) dX8_isSo_5 rfl (Nat.le_of_ble_eq_true rfl) (fun r μ' hq => ?_)
  obtain ⟨rfl, f1, f2, f3⟩ := hq
  have e0 : μ'.1 128 54 = nI (sRow (bas C T) 0) := f1.1 0 (by omega)
  have e1 : μ'.1 128 (54 + C.1 - 1) = nI (sRow (bas C T) (C.1 - 1)) := by
    have := f1.1 (C.1 - 1) (by omega)
    rwa [show 54 + (C.1 - 1) = 54 + C.1 - 1 by omega] at this
  have hM1 := hM.kept f3 (by omega) (by omega) (fun j => by omega) (fun j => by omega)
  refine R_aload_n (n := 9) dX8_isSo_8 rfl rfl ?_
  refine gf_X8_16 (n := 12) dX8_isSo_9 rfl ?_
  refine R_bipush (v := nI 54) (n := 14) dX8_isSo_12 rfl rfl ?_
  refine R_iald_e (n := 15) sh_128 (rfl) (by omega) dX8_isSo_14 rfl (e0) ?_
  refine R_iload_n (n := 16) dX8_isSo_15 rfl rfl ?_
  by_cases q1 : sRow (bas C T) 0 = one
  · refine R_icmp_ne_f (n := 19) dX8_isSo_16 rfl rfl (congrArg nI q1) ?_
    refine R_aload_n (n := 20) dX8_isSo_19 rfl rfl ?_
    refine gf_X8_16 (n := 23) dX8_isSo_20 rfl ?_
    refine R_bipush (v := nI 54) (n := 25) dX8_isSo_23 rfl rfl ?_
    refine R_aload_n (n := 26) dX8_isSo_25 rfl rfl ?_
    refine ge_X8_83 (n := 29) dX8_isSo_26 rfl (hM1.2.1) ?_
    refine R_iadd_n (n := 30) dX8_isSo_29 rfl ?_
    refine R_iconst (v := nI 1) (n := 31) dX8_isSo_30 rfl rfl ?_
    refine R_isub_n (n := 32) dX8_isSo_31 ((by omega)) rfl ?_
    refine R_iald_e (n := 33) sh_128 (rfl) (by omega) dX8_isSo_32 rfl (e1) ?_
    refine R_iload_n (n := 34) dX8_isSo_33 rfl rfl ?_
    by_cases q2 : sRow (bas C T) (C.1 - 1) = other
    · refine R_icmp_eq_t (tgt := 41) dX8_isSo_34 rfl (congrArg nI q2) ?_
      refine R_iconst (v := nI 0) (n := 42) dX8_isSo_41 rfl rfl ?_
      refine R_iret dX8_isSo_42 rfl (by first | rfl | exact nar_bi _) (⟨by rw [suF, decide_eq_true q1, decide_eq_true q2]; rfl, f3⟩)
    · refine R_icmp_eq_f (n := 37) dX8_isSo_34 rfl rfl (by rw [nI_eq (by omega) (by omega)]; omega) ?_
      refine R_iconst (v := nI 1) (n := 38) dX8_isSo_37 rfl rfl ?_
      refine R_goto (tgt := 42) dX8_isSo_38 rfl ?_
      refine R_iret dX8_isSo_42 rfl (by first | rfl | exact nar_bi _) (⟨by rw [suF, decide_eq_true q1, decide_eq_false q2]; rfl, f3⟩)
  · refine R_icmp_ne_t (tgt := 41) dX8_isSo_16 rfl (by rw [nI_eq (by omega) (by omega)]; omega) ?_
    refine R_iconst (v := nI 0) (n := 42) dX8_isSo_41 rfl rfl ?_
    refine R_iret dX8_isSo_42 rfl (by first | rfl | exact nar_bi _) (⟨by rw [suF, decide_eq_false q1]; rfl, f3⟩)
theorem ct_X8_factorial {n : Nat} (hn : n < 7) : Ct G l 1 yX8_factorial cX8_factorial 3 (some .int) [.int (nI n)] μ (fun r μ' => r = some (.int (nI (fct n))) ∧ μ' = μ) := by
  refine Ct.of 2 (by decide +kernel) rfl (Nat.le_of_ble_eq_true rfl) ?_
  show V G l RX8 cX8_factorial 3 _ false _ _ 0 [some (.int _), none, none] [] _
  refine R_iconst (v := nI 1) (n := 1) dX8_factorial_0 rfl rfl ?_
  refine R_istore_n (n := 2) dX8_factorial_1 rfl (Nat.le_of_ble_eq_true rfl) (Nat.le_of_ble_eq_true rfl) ?_
  refine R_iconst (v := nI 2) (n := 3) dX8_factorial_2 rfl rfl ?_
  refine R_istore_n (n := 4) dX8_factorial_3 rfl (Nat.le_of_ble_eq_true rfl) (Nat.le_of_ble_eq_true rfl) ?_
  have loop : ∀ (f k : Nat), 1 ≤ k → n ≤ k + f → (k ≤ n ∨ n = 0) → (n = 0 → k = 1) → V G l RX8 cX8_factorial 3 1 false (some .int) (fun r μ' => r = some (.int (nI (fct n))) ∧ μ' = μ) 4 [some (.int (nI n)), some (.int (nI (fct k))), some (.int (nI (k + 1)))] [] μ := by
    intro f
    induction f with
    | zero =>
      intro k h1 h2 h3 h4
      have ek : fct k = fct n := by
        by_cases e : n = 0
        · rw [e, h4 e]; rfl
        · rw [show n = k by omega]
      refine R_iload_n (n := 5) dX8_factorial_4 rfl rfl ?_
      refine R_iload_n (n := 6) dX8_factorial_5 rfl rfl ?_
      refine R_icmp_gt_t (tgt := 19) dX8_factorial_6 rfl (by rw [nI_ltI (by omega) (by omega)]; omega) ?_
      refine R_iload_n (n := 20) dX8_factorial_19 rfl rfl ?_
      refine R_iret dX8_factorial_20 rfl (rfl) (⟨by rw [ek], rfl⟩)
    | succ f ih =>
      intro k h1 h2 h3 h4
      by_cases hk : k < n
      · refine R_iload_n (n := 5) dX8_factorial_4 rfl rfl ?_
        refine R_iload_n (n := 6) dX8_factorial_5 rfl rfl ?_
        refine R_icmp_gt_f (n := 9) dX8_factorial_6 rfl rfl (by rw [nI_ltI (by omega) (by omega)]; omega) ?_
        refine R_iload_n (n := 10) dX8_factorial_9 rfl rfl ?_
        refine R_iload_n (n := 11) dX8_factorial_10 rfl rfl ?_
        refine R_imul_n (n := 12) dX8_factorial_11 rfl ?_
        refine R_istore_n (n := 13) dX8_factorial_12 rfl (Nat.le_of_ble_eq_true rfl) (Nat.le_of_ble_eq_true rfl) ?_
        refine R_iinc (n := 16) dX8_factorial_13 rfl rfl (nI_1 _) (Nat.le_of_ble_eq_true rfl) ?_
        refine R_goto (tgt := 4) dX8_factorial_16 rfl ?_
        rw [show fct k * (k + 1) = fct (k + 1) by rw [fct, Nat.mul_comm]]
        exact ih (k + 1) (by omega) (by omega) (by omega) (by omega)
      · have ek : fct k = fct n := by
          by_cases e : n = 0
          · rw [e, h4 e]; rfl
          · rw [show n = k by omega]
        refine R_iload_n (n := 5) dX8_factorial_4 rfl rfl ?_
        refine R_iload_n (n := 6) dX8_factorial_5 rfl rfl ?_
        refine R_icmp_gt_t (tgt := 19) dX8_factorial_6 rfl (by rw [nI_ltI (by omega) (by omega)]; omega) ?_
        refine R_iload_n (n := 20) dX8_factorial_19 rfl rfl ?_
        refine R_iret dX8_factorial_20 rfl (rfl) (⟨by rw [ek], rfl⟩)
  exact loop n 1 (by omega) (by omega) (by omega) (by omega)
theorem ct_X8_tenTo {n : Nat} (hn : n < 10) : Ct G l 1 yX8_tenTo cX8_tenTo 3 (some .int) [.int (nI n)] μ (fun r μ' => r = some (.int (nI (10 ^ n))) ∧ μ' = μ) := by
  refine Ct.of 2 (by decide +kernel) rfl (Nat.le_of_ble_eq_true rfl) ?_
  show V G l RX8 cX8_tenTo 3 _ false _ _ 0 [some (.int _), none, none] [] _
  refine R_iconst (v := nI 1) (n := 1) dX8_tenTo_0 rfl rfl ?_
  refine R_istore_n (n := 2) dX8_tenTo_1 rfl (Nat.le_of_ble_eq_true rfl) (Nat.le_of_ble_eq_true rfl) ?_
  refine R_iconst (v := nI 0) (n := 3) dX8_tenTo_2 rfl rfl ?_
  refine R_istore_n (n := 4) dX8_tenTo_3 rfl (Nat.le_of_ble_eq_true rfl) (Nat.le_of_ble_eq_true rfl) ?_
  refine down (z := n) (P := fun k => V G l RX8 cX8_tenTo 3 1 false _ _ 4 [some (.int (nI n)), some (.int (nI (10 ^ k))), some (.int (nI k))] [] _) ?_ ?_ 0 (Nat.zero_le _)
  · refine R_iload_n (n := 5) dX8_tenTo_4 rfl rfl ?_
    refine R_iload_n (n := 6) dX8_tenTo_5 rfl rfl ?_
    refine R_icmp_ge_t (tgt := 20) dX8_tenTo_6 rfl (by rw [nI_leI (by omega) (by omega)]; omega) ?_
    refine R_iload_n (n := 21) dX8_tenTo_20 rfl rfl ?_
    refine R_iret dX8_tenTo_21 rfl (rfl) (⟨rfl, rfl⟩)
  · intro k hk ih
    refine R_iload_n (n := 5) dX8_tenTo_4 rfl rfl ?_
    refine R_iload_n (n := 6) dX8_tenTo_5 rfl rfl ?_
    refine R_icmp_ge_f (n := 9) dX8_tenTo_6 rfl rfl (by rw [nI_leI (by omega) (by omega)]; omega) ?_
    refine R_iload_n (n := 10) dX8_tenTo_9 rfl rfl ?_
    refine R_bipush (v := nI 10) (n := 12) dX8_tenTo_10 rfl rfl ?_
    refine R_imul_n (n := 13) dX8_tenTo_12 rfl ?_
    refine R_istore_n (n := 14) dX8_tenTo_13 rfl (Nat.le_of_ble_eq_true rfl) (Nat.le_of_ble_eq_true rfl) ?_
    refine R_iinc (n := 17) dX8_tenTo_14 rfl rfl (nI_1 _) (Nat.le_of_ble_eq_true rfl) ?_
    refine R_goto (tgt := 4) dX8_tenTo_17 rfl ?_
    exact ih
end M3

