/-! THE MODEL: acts and the text -/
theorem inI_dig {t lo hi : Nat} (ht : t < 256) (hl : lo < 256) (hh : hi < 256) : inI (nI t - nI 48) (nI lo) (nI hi) = decide (48 + lo ≤ t ∧ t ≤ 48 + hi) := by
  have h1 : (nI t - nI 48).toInt = (t : Int) - 48 := by
    rw [Int32.toInt_sub, nI_toInt (by omega)]
    show ((t : Int) - 48).bmod (2 ^ 32) = (t : Int) - 48
    exact Int.bmod_eq_of_le (by omega) (by omega)
  unfold inI
  rw [← Bool.decide_and]
  refine decide_eq_decide.mpr ?_
  rw [Int32.lt_iff_toInt_lt, Int32.lt_iff_toInt_lt, h1, nI_toInt (by omega), nI_toInt (by omega)]
  omega
theorem inI_neg {lo hi : Nat} (hl : lo < 256) : inI (-9) (nI lo) (nI hi) = false := by
  unfold inI
  rw [decide_eq_false (p := ¬ (-9 : Int32) < nI lo), Bool.false_and]
  intro h
  apply h
  rw [Int32.lt_iff_toInt_lt, nI_toInt (by omega)]
  have : (-9 : Int32).toInt = -9 := by decide
  omega
def MTx (μ : Mem) (tx : Nat → Nat) (len : Nat) : Prop := μ.1 125 10 = nI len ∧ len ≤ 40 ∧ (∀ k, k < len → μ.1 131 k = nI (tx k)) ∧ ∀ k, k < len → tx k < 256
theorem MTx.kept {μ μ1 : Mem} {tx : Nat → Nat} {len : Nat} {P : Nat → Nat → Prop} (h : MTx μ tx len) (hs : Sme P μ μ1) (h1 : ¬ P 125 10) (h2 : ∀ k, ¬ P 131 k) : MTx μ1 tx len := ⟨(hs.1 _ _ h1).trans h.1, h.2.1, fun k hk => (hs.1 _ _ (h2 k)).trans (h.2.2.1 k hk), h.2.2.2⟩
section M6
variable {G : Gm} {l : Launch} {μ : Mem} {C : CF} {S : ST} {z a : Nat} {hist : Nat → ST} {tx : Nat → Nat} {len : Nat}
abbrev Pka : Nat → Nat → Prop := fun i j => i = 133 ∨ (i = 125 ∧ (j = 14 ∨ j = 15))
theorem ct_X8_keepAct (hS : MSt μ 128 0 C.1 C S) (hC : C.1 ≤ 6 ∧ C.2.1 ≤ 5) (hA : MAc μ C hist a) : Ct G l 1 yX8_keepAct cX8_keepAct 2 none [.ref (G.2.2.1 125)] μ (fun r μ' => r = none ∧ MAc μ' C (pushH S hist) (if a < 14 then a + 1 else 14) ∧ Sme Pka μ μ') := by
  obtain ⟨a1, a2, nx, a3, a4, a5⟩ := hA
  refine Ct.of 1 (by decide +kernel) rfl (Nat.le_of_ble_eq_true rfl) ?_
  show V G l RX8 cX8_keepAct 2 _ false none _ 0 [some (.ref _), none] [] _
  refine R_iconst (v := nI 0) (n := 1) dX8_keepAct_0 rfl rfl ?_
  refine R_istore_n (n := 2) dX8_keepAct_1 rfl (Nat.le_of_ble_eq_true rfl) (Nat.le_of_ble_eq_true rfl) ?_
  refine down (z := 54) (P := fun k => ∀ μ1 : Mem, (∀ j, j < k → μ1.1 133 (54 * nx + j) = μ.1 128 j) → Sme (fun i j => i = 133 ∧ 54 * nx ≤ j ∧ j < 54 * nx + 54) μ μ1 → V G l RX8 cX8_keepAct 2 1 false _ (fun r μ' => r = none ∧ MAc μ' C (pushH S hist) (if a < 14 then a + 1 else 14) ∧ Sme Pka μ μ') 2 [some (.ref _), some (.int (nI k))] [] μ1) ?_ ?_ 0 (Nat.zero_le _) μ (fun j h => absurd h (by omega)) (Sme.rf _ _)
  · intro μ1 h1 h2
    have n1 : μ1.1 125 15 = nI nx := (h2.1 _ _ (by omega)).trans a4
    have n2 : μ1.1 125 14 = nI a := (h2.1 _ _ (by omega)).trans a2
    have hnew : MSt μ1 133 (54 * nx) C.1 C S := mst_cpy hS ⟨hC.1, hC.2, hC.1⟩ (fun k hk => by rw [Nat.zero_add]; exact h1 k hk)
    have hold : ∀ i, i < a → i < 13 → MSt μ1 133 (54 * ((nx + 13 - i) % 14)) C.1 C (hist i) := fun i hi hi13 => (a5 i hi).kept ⟨hC.1, hC.2, hC.1⟩ h2 (fun j z1 z2 => by omega)
    refine R_iload_n (n := 3) dX8_keepAct_2 rfl rfl ?_
    refine R_bipush (v := nI 54) (n := 5) dX8_keepAct_3 rfl rfl ?_
    refine R_icmp_ge_t (tgt := 34) dX8_keepAct_5 rfl (by rw [nI_leI (by omega) (by omega)]; omega) ?_
    refine R_aload_n (n := 35) dX8_keepAct_34 rfl rfl ?_
    refine R_aload_n (n := 36) dX8_keepAct_35 rfl rfl ?_
    refine ge_X8_111 (n := 39) dX8_keepAct_36 rfl (by first | exact n1 | (rw [sti_1_pf _ _ _ _ _ _ (by omega)]; exact n1) | (rw [sti_1_pf _ _ _ _ _ _ (by omega), sti_1_pf _ _ _ _ _ _ (by omega)]; exact n1) | (rw [sti_1_pf _ _ _ _ _ _ (by omega), sti_1_pf _ _ _ _ _ _ (by omega), sti_1_pf _ _ _ _ _ _ (by omega)]; exact n1) | (rw [sti_1_pf _ _ _ _ _ _ (by omega), sti_1_pf _ _ _ _ _ _ (by omega), sti_1_pf _ _ _ _ _ _ (by omega), sti_1_pf _ _ _ _ _ _ (by omega)]; exact n1) | (rw [sti_1_pf _ _ _ _ _ _ (by omega), sti_1_pf _ _ _ _ _ _ (by omega), sti_1_pf _ _ _ _ _ _ (by omega), sti_1_pf _ _ _ _ _ _ (by omega), sti_1_pf _ _ _ _ _ _ (by omega)]; exact n1)) ?_
    refine R_iconst (v := nI 1) (n := 40) dX8_keepAct_39 rfl rfl ?_
    refine R_iadd_n (n := 41) dX8_keepAct_40 rfl ?_
    refine R_bipush (v := nI 14) (n := 43) dX8_keepAct_41 rfl rfl ?_
    refine R_irem_n (n := 44) dX8_keepAct_43 (by omega) (by omega) (by omega) rfl ?_
    refine pf_X8_111 (n := 47) dX8_keepAct_44 rfl ?_
    have fin : ∀ (x : Nat), x = (if a < 14 then a + 1 else 14) → MAc (sti (sti μ1 125 15 (nI ((nx + 1) % 14))) 125 14 (nI x)) C (pushH S hist) (if a < 14 then a + 1 else 14) ∧ Sme Pka μ (sti (sti μ1 125 15 (nI ((nx + 1) % 14))) 125 14 (nI x)) := by
      intro x hx
      rw [← hx]
      have hx14 : x ≤ 14 := by rw [hx]; split <;> omega
      have s1 : Sme (fun i j => i = 125) μ1 (sti (sti μ1 125 15 (nI ((nx + 1) % 14))) 125 14 (nI x)) := ((Sme.rf (fun i j => i = 125) μ1).sti rfl).sti rfl
      refine ⟨⟨hx14, by rw [sti_1_eq], (nx + 1) % 14, by omega, by rw [sti_1_pf _ _ _ _ _ _ (by omega), sti_1_eq], fun i hi => ?_⟩, (((h2.mono (P' := Pka) (fun i j z => Or.inl z.1)).sti (by omega)).sti (by omega))⟩
      have e : MSt μ1 133 (54 * (((nx + 1) % 14 + 13 - i) % 14)) C.1 C (pushH S hist i) := by
        cases i with
        | zero => rw [show ((nx + 1) % 14 + 13 - 0) % 14 = nx by omega]; exact hnew
        | succ i =>
          have hia : i < a ∧ i < 13 := by
            by_cases q : a < 14
            · rw [if_pos q] at hx; omega
            · rw [if_neg q] at hx; omega
          rw [show ((nx + 1) % 14 + 13 - (i + 1)) % 14 = (nx + 13 - i) % 14 by omega]
          exact hold i hia.1 hia.2
      exact e.kept ⟨hC.1, hC.2, hC.1⟩ s1 (fun j z1 z2 => by omega)
    refine R_aload_n (n := 48) dX8_keepAct_47 rfl rfl ?_
    refine R_aload_n (n := 49) dX8_keepAct_48 rfl rfl ?_
    refine ge_X8_86 (n := 52) dX8_keepAct_49 rfl (by first | exact n2 | (rw [sti_1_pf _ _ _ _ _ _ (by omega)]; exact n2) | (rw [sti_1_pf _ _ _ _ _ _ (by omega), sti_1_pf _ _ _ _ _ _ (by omega)]; exact n2) | (rw [sti_1_pf _ _ _ _ _ _ (by omega), sti_1_pf _ _ _ _ _ _ (by omega), sti_1_pf _ _ _ _ _ _ (by omega)]; exact n2) | (rw [sti_1_pf _ _ _ _ _ _ (by omega), sti_1_pf _ _ _ _ _ _ (by omega), sti_1_pf _ _ _ _ _ _ (by omega), sti_1_pf _ _ _ _ _ _ (by omega)]; exact n2) | (rw [sti_1_pf _ _ _ _ _ _ (by omega), sti_1_pf _ _ _ _ _ _ (by omega), sti_1_pf _ _ _ _ _ _ (by omega), sti_1_pf _ _ _ _ _ _ (by omega), sti_1_pf _ _ _ _ _ _ (by omega)]; exact n2)) ?_
    refine R_bipush (v := nI 14) (n := 54) dX8_keepAct_52 rfl rfl ?_
    by_cases q : a < 14
    · refine R_icmp_ge_f (n := 57) dX8_keepAct_54 rfl rfl (by rw [nI_leI (by omega) (by omega)]; omega) ?_
      refine R_aload_n (n := 58) dX8_keepAct_57 rfl rfl ?_
      refine ge_X8_86 (n := 61) dX8_keepAct_58 rfl (by first | exact n2 | (rw [sti_1_pf _ _ _ _ _ _ (by omega)]; exact n2) | (rw [sti_1_pf _ _ _ _ _ _ (by omega), sti_1_pf _ _ _ _ _ _ (by omega)]; exact n2) | (rw [sti_1_pf _ _ _ _ _ _ (by omega), sti_1_pf _ _ _ _ _ _ (by omega), sti_1_pf _ _ _ _ _ _ (by omega)]; exact n2) | (rw [sti_1_pf _ _ _ _ _ _ (by omega), sti_1_pf _ _ _ _ _ _ (by omega), sti_1_pf _ _ _ _ _ _ (by omega), sti_1_pf _ _ _ _ _ _ (by omega)]; exact n2) | (rw [sti_1_pf _ _ _ _ _ _ (by omega), sti_1_pf _ _ _ _ _ _ (by omega), sti_1_pf _ _ _ _ _ _ (by omega), sti_1_pf _ _ _ _ _ _ (by omega), sti_1_pf _ _ _ _ _ _ (by omega)]; exact n2)) ?_
      refine R_iconst (v := nI 1) (n := 62) dX8_keepAct_61 rfl rfl ?_
      refine R_iadd_n (n := 63) dX8_keepAct_62 rfl ?_
      refine R_goto (tgt := 68) dX8_keepAct_63 rfl ?_
      refine pf_X8_86 (n := 71) dX8_keepAct_68 rfl ?_
      obtain ⟨e1, e2⟩ := fin (a + 1) (by rw [if_pos q])
      refine R_ret dX8_keepAct_71 rfl (⟨rfl, e1, e2⟩)
    · refine R_icmp_ge_t (tgt := 66) dX8_keepAct_54 rfl (by rw [nI_leI (by omega) (by omega)]; omega) ?_
      refine R_bipush (v := nI 14) (n := 68) dX8_keepAct_66 rfl rfl ?_
      refine pf_X8_86 (n := 71) dX8_keepAct_68 rfl ?_
      obtain ⟨e1, e2⟩ := fin 14 (by rw [if_neg q])
      refine R_ret dX8_keepAct_71 rfl (⟨rfl, e1, e2⟩)
  · intro k hk ih μ1 h1 h2
    have n1 : μ1.1 125 15 = nI nx := (h2.1 _ _ (by omega)).trans a4
    refine R_iload_n (n := 3) dX8_keepAct_2 rfl rfl ?_
    refine R_bipush (v := nI 54) (n := 5) dX8_keepAct_3 rfl rfl ?_
    refine R_icmp_ge_f (n := 8) dX8_keepAct_5 rfl rfl (by rw [nI_leI (by omega) (by omega)]; omega) ?_
    refine R_aload_n (n := 9) dX8_keepAct_8 rfl rfl ?_
    refine gf_X8_31 (n := 12) dX8_keepAct_9 rfl ?_
    refine R_bipush (v := nI 54) (n := 14) dX8_keepAct_12 rfl rfl ?_
    refine R_aload_n (n := 15) dX8_keepAct_14 rfl rfl ?_
    refine ge_X8_111 (n := 18) dX8_keepAct_15 rfl (n1) ?_
    refine R_imul_n (n := 19) dX8_keepAct_18 rfl ?_
    refine R_iload_n (n := 20) dX8_keepAct_19 rfl rfl ?_
    refine R_iadd_n (n := 21) dX8_keepAct_20 rfl ?_
    refine R_aload_n (n := 22) dX8_keepAct_21 rfl rfl ?_
    refine gf_X8_16 (n := 25) dX8_keepAct_22 rfl ?_
    refine R_iload_n (n := 26) dX8_keepAct_25 rfl rfl ?_
    refine R_iald (n := 27) sh_128 (rfl) (by omega) dX8_keepAct_26 rfl ?_
    refine R_iast (n := 28) sh_133 (rfl) (by omega) dX8_keepAct_27 rfl ?_
    refine R_iinc (n := 31) dX8_keepAct_28 rfl rfl (nI_1 _) (Nat.le_of_ble_eq_true rfl) ?_
    refine R_goto (tgt := 2) dX8_keepAct_31 rfl ?_
    refine ih _ (fun j hj => ?_) (h2.sti (by omega))
    rw [sti_1]
    by_cases e : j = k
    · rw [if_pos ⟨rfl, by omega⟩, h2.1 _ _ (by omega), e]
    · rw [if_neg (by omega)]; exact h1 j (by omega)
theorem ct_X8_figure_ok {p lo hi : Nat} (hT : MTx μ tx len) (ha : μ.1 125 11 = nI p) (hf : μ.1 125 12 = -9) (hh : hi < 256) (hd : p < len ∧ 48 + lo ≤ tx p ∧ tx p ≤ 48 + hi) : Ct G l 2 yX8_figure cX8_figure 4 (some .int) [.ref (G.2.2.1 125), .int (nI lo), .int (nI hi)] μ (fun r μ' => r = some (.int (nI (tx p - 48))) ∧ μ' = sti μ 125 11 (nI (p + 1))) := by
  obtain ⟨t1, t2, t3, t4⟩ := hT
  have hx := t4 p hd.1
  refine Ct.of 1 (by decide +kernel) rfl (Nat.le_of_ble_eq_true rfl) ?_
  show V G l RX8 cX8_figure 4 _ false _ _ 0 [some (.ref _), some (.int _), some (.int _), none] [] _
  refine R_aload_n (n := 1) dX8_figure_0 rfl rfl ?_
  refine ge_X8_63 (n := 4) dX8_figure_1 rfl (hf) ?_
  refine R_bipush (v := -9) (n := 6) dX8_figure_4 rfl rfl ?_
  refine R_icmp_ne_f (n := 9) dX8_figure_6 rfl rfl (rfl) ?_
  refine R_aload_n (n := 10) dX8_figure_9 rfl rfl ?_
  refine ge_X8_66 (n := 13) dX8_figure_10 rfl (ha) ?_
  refine R_aload_n (n := 14) dX8_figure_13 rfl rfl ?_
  refine ge_X8_60 (n := 17) dX8_figure_14 rfl (t1) ?_
  refine R_icmp_ge_f (n := 20) dX8_figure_17 rfl rfl (by rw [nI_leI (by omega) (by omega)]; omega) ?_
  refine R_aload_n (n := 21) dX8_figure_20 rfl rfl ?_
  refine gf_X8_25 (n := 24) dX8_figure_21 rfl ?_
  refine R_aload_n (n := 25) dX8_figure_24 rfl rfl ?_
  refine ge_X8_66 (n := 28) dX8_figure_25 rfl (ha) ?_
  refine R_iald_e (n := 29) sh_131 (rfl) (by omega) dX8_figure_28 rfl (t3 _ hd.1) ?_
  refine R_bipush (v := nI 48) (n := 31) dX8_figure_29 rfl rfl ?_
  refine R_isub (n := 32) dX8_figure_31 rfl ?_
  refine R_goto (tgt := 37) dX8_figure_32 rfl ?_
  refine R_istore_n (n := 38) dX8_figure_37 rfl (Nat.le_of_ble_eq_true rfl) (Nat.le_of_ble_eq_true rfl) ?_
  refine R_iload_n (n := 39) dX8_figure_38 rfl rfl ?_
  refine R_i2l (n := 40) dX8_figure_39 rfl ?_
  refine R_iload_n (n := 41) dX8_figure_40 rfl rfl ?_
  refine R_i2l (n := 42) dX8_figure_41 rfl ?_
  refine R_iload_n (n := 43) dX8_figure_42 rfl rfl ?_
  refine R_i2l (n := 44) dX8_figure_43 rfl ?_
  refine iv_X8_56 (n := 47) (ct_X8_in _ _ _) (by decide) dX8_figure_44 rfl (Nat.le_of_ble_eq_true rfl) (fun r μ' hq => ?_)
  obtain ⟨rfl, hq⟩ := hq
  have hq := hq.symm
  subst hq
  rw [inI_dig hx (by omega) hh, decide_eq_true hd.2]
  refine R_if_ne_t (tgt := 76) dX8_figure_47 rfl (by decide) ?_
  refine R_aload_n (n := 77) dX8_figure_76 rfl rfl ?_
  refine R_dup (n := 78) dX8_figure_77 rfl rfl ?_
  refine ge_X8_66 (n := 81) dX8_figure_78 rfl (ha) ?_
  refine R_iconst (v := nI 1) (n := 82) dX8_figure_81 rfl rfl ?_
  refine R_iadd_n (n := 83) dX8_figure_82 rfl ?_
  refine pf_X8_66 (n := 86) dX8_figure_83 rfl ?_
  refine R_iload_n (n := 87) dX8_figure_86 rfl rfl ?_
  refine R_iret dX8_figure_87 rfl rfl ⟨?_, rfl⟩
  rw [nI_sub (by omega)]
theorem ct_X8_figure_bad {p lo hi : Nat} (hT : MTx μ tx len) (ha : μ.1 125 11 = nI p) (hf : μ.1 125 12 = -9) (hp : p ≤ len) (hlo : lo < 256) (hh : hi < 256) (hd : ¬ (p < len ∧ 48 + lo ≤ tx p ∧ tx p ≤ 48 + hi)) : Ct G l 2 yX8_figure cX8_figure 4 (some .int) [.ref (G.2.2.1 125), .int (nI lo), .int (nI hi)] μ (fun r μ' => r = some (.int (nI lo)) ∧ μ' = sti μ 125 12 (nI p)) := by
  obtain ⟨t1, t2, t3, t4⟩ := hT
  refine Ct.of 1 (by decide +kernel) rfl (Nat.le_of_ble_eq_true rfl) ?_
  show V G l RX8 cX8_figure 4 _ false _ _ 0 [some (.ref _), some (.int _), some (.int _), none] [] _
  refine R_aload_n (n := 1) dX8_figure_0 rfl rfl ?_
  refine ge_X8_63 (n := 4) dX8_figure_1 rfl (hf) ?_
  refine R_bipush (v := -9) (n := 6) dX8_figure_4 rfl rfl ?_
  refine R_icmp_ne_f (n := 9) dX8_figure_6 rfl rfl (rfl) ?_
  refine R_aload_n (n := 10) dX8_figure_9 rfl rfl ?_
  refine ge_X8_66 (n := 13) dX8_figure_10 rfl (ha) ?_
  refine R_aload_n (n := 14) dX8_figure_13 rfl rfl ?_
  refine ge_X8_60 (n := 17) dX8_figure_14 rfl (t1) ?_
  by_cases hl : p < len
  · have hx := t4 p hl
    refine R_icmp_ge_f (n := 20) dX8_figure_17 rfl rfl (by rw [nI_leI (by omega) (by omega)]; omega) ?_
    refine R_aload_n (n := 21) dX8_figure_20 rfl rfl ?_
    refine gf_X8_25 (n := 24) dX8_figure_21 rfl ?_
    refine R_aload_n (n := 25) dX8_figure_24 rfl rfl ?_
    refine ge_X8_66 (n := 28) dX8_figure_25 rfl (ha) ?_
    refine R_iald_e (n := 29) sh_131 (rfl) (by omega) dX8_figure_28 rfl (t3 _ hl) ?_
    refine R_bipush (v := nI 48) (n := 31) dX8_figure_29 rfl rfl ?_
    refine R_isub (n := 32) dX8_figure_31 rfl ?_
    refine R_goto (tgt := 37) dX8_figure_32 rfl ?_
    refine R_istore_n (n := 38) dX8_figure_37 rfl (Nat.le_of_ble_eq_true rfl) (Nat.le_of_ble_eq_true rfl) ?_
    refine R_iload_n (n := 39) dX8_figure_38 rfl rfl ?_
    refine R_i2l (n := 40) dX8_figure_39 rfl ?_
    refine R_iload_n (n := 41) dX8_figure_40 rfl rfl ?_
    refine R_i2l (n := 42) dX8_figure_41 rfl ?_
    refine R_iload_n (n := 43) dX8_figure_42 rfl rfl ?_
    refine R_i2l (n := 44) dX8_figure_43 rfl ?_
    refine iv_X8_56 (n := 47) (ct_X8_in _ _ _) (by decide) dX8_figure_44 rfl (Nat.le_of_ble_eq_true rfl) (fun r μ' hq => ?_)
    obtain ⟨rfl, hq⟩ := hq
    have hq := hq.symm
    subst hq
    rw [inI_dig hx hlo hh, decide_eq_false (fun z => hd ⟨hl, z⟩)]
    refine R_if_ne_f (n := 50) dX8_figure_47 rfl rfl (by decide) ?_
    refine R_aload_n (n := 51) dX8_figure_50 rfl rfl ?_
    refine R_aload_n (n := 52) dX8_figure_51 rfl rfl ?_
    refine ge_X8_63 (n := 55) dX8_figure_52 rfl (hf) ?_
    refine R_bipush (v := -9) (n := 57) dX8_figure_55 rfl rfl ?_
    refine R_icmp_ne_f (n := 60) dX8_figure_57 rfl rfl (rfl) ?_
    refine R_aload_n (n := 61) dX8_figure_60 rfl rfl ?_
    refine ge_X8_66 (n := 64) dX8_figure_61 rfl (ha) ?_
    refine R_goto (tgt := 71) dX8_figure_64 rfl ?_
    refine pf_X8_63 (n := 74) dX8_figure_71 rfl ?_
    refine R_iload_n (n := 75) dX8_figure_74 rfl rfl ?_
    refine R_iret dX8_figure_75 rfl (rfl) (⟨rfl, rfl⟩)
  · refine R_icmp_ge_t (tgt := 35) dX8_figure_17 rfl (by rw [nI_leI (by omega) (by omega)]; omega) ?_
    refine R_bipush (v := -9) (n := 37) dX8_figure_35 rfl rfl ?_
    refine R_istore_n (n := 38) dX8_figure_37 rfl (Nat.le_of_ble_eq_true rfl) (Nat.le_of_ble_eq_true rfl) ?_
    refine R_iload_n (n := 39) dX8_figure_38 rfl rfl ?_
    refine R_i2l (n := 40) dX8_figure_39 rfl ?_
    refine R_iload_n (n := 41) dX8_figure_40 rfl rfl ?_
    refine R_i2l (n := 42) dX8_figure_41 rfl ?_
    refine R_iload_n (n := 43) dX8_figure_42 rfl rfl ?_
    refine R_i2l (n := 44) dX8_figure_43 rfl ?_
    refine iv_X8_56 (n := 47) (ct_X8_in _ _ _) (by decide) dX8_figure_44 rfl (Nat.le_of_ble_eq_true rfl) (fun r μ' hq => ?_)
    obtain ⟨rfl, hq⟩ := hq
    have hq := hq.symm
    subst hq
    rw [inI_neg hlo]
    refine R_if_ne_f (n := 50) dX8_figure_47 rfl rfl (by decide) ?_
    refine R_aload_n (n := 51) dX8_figure_50 rfl rfl ?_
    refine R_aload_n (n := 52) dX8_figure_51 rfl rfl ?_
    refine ge_X8_63 (n := 55) dX8_figure_52 rfl (hf) ?_
    refine R_bipush (v := -9) (n := 57) dX8_figure_55 rfl rfl ?_
    refine R_icmp_ne_f (n := 60) dX8_figure_57 rfl rfl (rfl) ?_
    refine R_aload_n (n := 61) dX8_figure_60 rfl rfl ?_
    refine ge_X8_66 (n := 64) dX8_figure_61 rfl (ha) ?_
    refine R_goto (tgt := 71) dX8_figure_64 rfl ?_
    refine pf_X8_63 (n := 74) dX8_figure_71 rfl ?_
    refine R_iload_n (n := 75) dX8_figure_74 rfl rfl ?_
    refine R_iret dX8_figure_75 rfl (rfl) (⟨rfl, rfl⟩)
theorem ct_X8_figure_dead {q lo hi : Nat} (hf : μ.1 125 12 = nI q) (hq31 : q < 2 ^ 31) (hlo : lo < 256) : Ct G l 2 yX8_figure cX8_figure 4 (some .int) [.ref (G.2.2.1 125), .int (nI lo), .int (nI hi)] μ (fun r μ' => r = some (.int (nI lo)) ∧ μ' = sti μ 125 12 (nI q)) := by
  refine Ct.of 1 (by decide +kernel) rfl (Nat.le_of_ble_eq_true rfl) ?_
  show V G l RX8 cX8_figure 4 _ false _ _ 0 [some (.ref _), some (.int _), some (.int _), none] [] _
  refine R_aload_n (n := 1) dX8_figure_0 rfl rfl ?_
  refine ge_X8_63 (n := 4) dX8_figure_1 rfl (hf) ?_
  refine R_bipush (v := -9) (n := 6) dX8_figure_4 rfl rfl ?_
  refine R_icmp_ne_t (tgt := 35) dX8_figure_6 rfl (nI_ne9 hq31) ?_
  refine R_bipush (v := -9) (n := 37) dX8_figure_35 rfl rfl ?_
  refine R_istore_n (n := 38) dX8_figure_37 rfl (Nat.le_of_ble_eq_true rfl) (Nat.le_of_ble_eq_true rfl) ?_
  refine R_iload_n (n := 39) dX8_figure_38 rfl rfl ?_
  refine R_i2l (n := 40) dX8_figure_39 rfl ?_
  refine R_iload_n (n := 41) dX8_figure_40 rfl rfl ?_
  refine R_i2l (n := 42) dX8_figure_41 rfl ?_
  refine R_iload_n (n := 43) dX8_figure_42 rfl rfl ?_
  refine R_i2l (n := 44) dX8_figure_43 rfl ?_
  refine iv_X8_56 (n := 47) (ct_X8_in _ _ _) (by decide) dX8_figure_44 rfl (Nat.le_of_ble_eq_true rfl) (fun r μ' hq => ?_)
  obtain ⟨rfl, hq⟩ := hq
  have hq := hq.symm
  subst hq
  rw [inI_neg hlo]
  refine R_if_ne_f (n := 50) dX8_figure_47 rfl rfl (by decide) ?_
  refine R_aload_n (n := 51) dX8_figure_50 rfl rfl ?_
  refine R_aload_n (n := 52) dX8_figure_51 rfl rfl ?_
  refine ge_X8_63 (n := 55) dX8_figure_52 rfl (hf) ?_
  refine R_bipush (v := -9) (n := 57) dX8_figure_55 rfl rfl ?_
  refine R_icmp_ne_t (tgt := 67) dX8_figure_57 rfl (nI_ne9 hq31) ?_
  refine R_aload_n (n := 68) dX8_figure_67 rfl rfl ?_
  refine ge_X8_63 (n := 71) dX8_figure_68 rfl (hf) ?_
  refine pf_X8_63 (n := 74) dX8_figure_71 rfl ?_
  refine R_iload_n (n := 75) dX8_figure_74 rfl rfl ?_
  refine R_iret dX8_figure_75 rfl (rfl) (⟨rfl, rfl⟩)
def RdM (μ : Mem) (A : AC) : Prop := μ.1 125 7 = nI A.1 ∧ μ.1 125 8 = nI A.2.1 ∧ (∀ k, k < A.1 → μ.1 129 k = nI (A.2.2.1 k)) ∧ ∀ j, j < A.2.1 → μ.1 130 (3 * j) = nI (A.2.2.2 (3 * j)) ∧ μ.1 130 (3 * j + 1) = nI (A.2.2.2 (3 * j + 1)) ∧ μ.1 130 (3 * j + 2) = nI (A.2.2.2 (3 * j + 2))
abbrev Prd : Nat → Nat → Prop := fun i j => i = 129 ∨ i = 130 ∨ (i = 125 ∧ (j = 7 ∨ j = 8 ∨ j = 11 ∨ j = 12))
theorem ct_X8_readText (hT : MTx μ tx len) : Ct G l 3 yX8_readText cX8_readText 1 (some .int) [.ref (G.2.2.1 125)] μ (fun r μ' => r = some (.int (oI (rdT tx len).1)) ∧ ((rdT tx len).1 = none → RdM μ' (rdT tx len).2) ∧ Sme Prd μ μ') := by
  obtain ⟨t1, t2, t3, t4⟩ := id hT
  refine Ct.of 0 (by decide +kernel) rfl (Nat.le_of_ble_eq_true rfl) ?_
  show V G l RX8 cX8_readText 1 _ false _ _ 0 [some (.ref _)] [] _
  refine R_aload_n (n := 1) dX8_readText_0 rfl rfl ?_
  refine R_iconst (v := nI 0) (n := 2) dX8_readText_1 rfl rfl ?_
  refine pf_X8_66 (n := 5) dX8_readText_2 rfl ?_
  refine R_aload_n (n := 6) dX8_readText_5 rfl rfl ?_
  refine R_bipush (v := -9) (n := 8) dX8_readText_6 rfl rfl ?_
  refine pf_X8_63 (n := 11) dX8_readText_8 rfl ?_
  refine R_aload_n (n := 12) dX8_readText_11 rfl rfl ?_
  refine R_iconst (v := nI 0) (n := 13) dX8_readText_12 rfl rfl ?_
  refine pf_X8_69 (n := 16) dX8_readText_13 rfl ?_
  refine R_aload_n (n := 17) dX8_readText_16 rfl rfl ?_
  refine R_iconst (v := nI 0) (n := 18) dX8_readText_17 rfl rfl ?_
  refine pf_X8_72 (n := 21) dX8_readText_18 rfl ?_
  refine R_aload_n (n := 22) dX8_readText_21 rfl rfl ?_
  refine ge_X8_60 (n := 25) dX8_readText_22 rfl (by first | exact t1 | (rw [sti_1_pf _ _ _ _ _ _ (by omega)]; exact t1) | (rw [sti_1_pf _ _ _ _ _ _ (by omega), sti_1_pf _ _ _ _ _ _ (by omega)]; exact t1) | (rw [sti_1_pf _ _ _ _ _ _ (by omega), sti_1_pf _ _ _ _ _ _ (by omega), sti_1_pf _ _ _ _ _ _ (by omega)]; exact t1) | (rw [sti_1_pf _ _ _ _ _ _ (by omega), sti_1_pf _ _ _ _ _ _ (by omega), sti_1_pf _ _ _ _ _ _ (by omega), sti_1_pf _ _ _ _ _ _ (by omega)]; exact t1) | (rw [sti_1_pf _ _ _ _ _ _ (by omega), sti_1_pf _ _ _ _ _ _ (by omega), sti_1_pf _ _ _ _ _ _ (by omega), sti_1_pf _ _ _ _ _ _ (by omega), sti_1_pf _ _ _ _ _ _ (by omega)]; exact t1)) ?_
  have s0 : Sme Prd μ (sti (sti (sti (sti μ 125 11 (nI 0)) 125 12 (-9)) 125 7 (nI 0)) 125 8 (nI 0)) := ((((Sme.rf _ _).sti (by omega)).sti (by omega)).sti (by omega)).sti (by omega)
  have i0 : RdM (sti (sti (sti (sti μ 125 11 (nI 0)) 125 12 (-9)) 125 7 (nI 0)) 125 8 (nI 0)) A0 := by
    refine ⟨?_, ?_, fun k hk => absurd hk (by show ¬ k < 0; omega), fun j hj => absurd hj (by show ¬ j < 0; omega)⟩
    · rw [sti_1_pf _ _ _ _ _ _ (by omega), sti_1_eq]; rfl
    · rw [sti_1_eq]; rfl
  have f0 : (sti (sti (sti (sti μ 125 11 (nI 0)) 125 12 (-9)) 125 7 (nI 0)) 125 8 (nI 0)).1 125 12 = -9 := by
    rw [sti_1_pf _ _ _ _ _ _ (by omega), sti_1_pf _ _ _ _ _ _ (by omega), sti_1_eq]
  generalize sti (sti (sti (sti μ 125 11 (nI 0)) 125 12 (-9)) 125 7 (nI 0)) 125 8 (nI 0) = μ1 at *
  rw [rdT]
  by_cases h0 : len = 0
  · rw [if_pos (Or.inl h0)]
    refine R_if_eq_t (tgt := 39) dX8_readText_25 rfl (by rw [h0]; rfl) ?_
    refine R_iconst (v := nI 0) (n := 40) dX8_readText_39 rfl rfl ?_
    refine R_iret dX8_readText_40 rfl (rfl) (⟨rfl, (fun z => by cases z), s0⟩)
  · refine R_if_eq_f (n := 28) dX8_readText_25 rfl rfl (nI_ne0 (by omega) (by omega)) ?_
    have u0 : μ1.1 131 0 = nI (tx 0) := (s0.1 _ _ (by omega)).trans (t3 0 (by omega))
    have hx0 := t4 0 (by omega)
    refine R_aload_n (n := 29) dX8_readText_28 rfl rfl ?_
    refine gf_X8_25 (n := 32) dX8_readText_29 rfl ?_
    refine R_iconst (v := nI 0) (n := 33) dX8_readText_32 rfl rfl ?_
    refine R_iald_e (n := 34) sh_131 (rfl) (by omega) dX8_readText_33 rfl (u0) ?_
    refine R_bipush (v := nI 67) (n := 36) dX8_readText_34 rfl rfl ?_
    by_cases h67 : tx 0 = 67
    · rw [if_neg (fun z => z.elim h0 (fun z => z h67))]
      refine R_icmp_eq_t (tgt := 41) dX8_readText_36 rfl (by rw [h67]) ?_
      refine R_aload_n (n := 42) dX8_readText_41 rfl rfl ?_
      refine R_iconst (v := nI 1) (n := 43) dX8_readText_42 rfl rfl ?_
      refine pf_X8_66 (n := 46) dX8_readText_43 rfl ?_
      have s1 : Sme Prd μ (sti μ1 125 11 (nI 1)) := s0.sti (by omega)
      have exitF : ∀ (q : Nat) (μ2 : Mem), q < 2 ^ 31 → μ2.1 125 12 = nI q → Sme Prd μ μ2 → (ptx tx len len 1 A0).1 = some q → V G l RX8 cX8_readText 1 3 false (some .int) (fun r μ' => r = some (.int (oI (ptx tx len len 1 A0).1)) ∧ ((ptx tx len len 1 A0).1 = none → RdM μ' (ptx tx len len 1 A0).2) ∧ Sme Prd μ μ') 46 [some (.ref (G.2.2.1 125))] [] μ2 := by
        intro q μ2 b1 b2 b3 b4
        refine R_aload_n (n := 47) dX8_readText_46 rfl rfl ?_
        refine ge_X8_63 (n := 50) dX8_readText_47 rfl (b2) ?_
        refine R_bipush (v := -9) (n := 52) dX8_readText_50 rfl rfl ?_
        refine R_icmp_ne_t (tgt := 240) dX8_readText_52 rfl (nI_ne9 b1) ?_
        refine R_aload_n (n := 241) dX8_readText_240 rfl rfl ?_
        refine ge_X8_63 (n := 244) dX8_readText_241 rfl (b2) ?_
        rw [b4]
        refine R_iret dX8_readText_244 rfl (rfl) (⟨rfl, (fun z => by cases z), b3⟩)
      have loop : ∀ (f p : Nat) (B : AC) (μ2 : Mem), 1 ≤ p → p ≤ len → len ≤ p + f → ptx tx len f p B = ptx tx len len 1 A0 → B.1 ≤ 5 → B.2.1 ≤ 6 → RdM μ2 B → μ2.1 125 11 = nI p → μ2.1 125 12 = -9 → Sme Prd μ μ2 → V G l RX8 cX8_readText 1 3 false (some .int) (fun r μ' => r = some (.int (oI (ptx tx len len 1 A0).1)) ∧ ((ptx tx len len 1 A0).1 = none → RdM μ' (ptx tx len len 1 A0).2) ∧ Sme Prd μ μ') 46 [some (.ref (G.2.2.1 125))] [] μ2 := by
        intro f
        induction f with
        | zero =>
          intro p B μ2 c1 c2 c3 c4 c5 c6 c7 c8 c9 c10
          have hl := (c10.1 _ _ (by omega)).trans t1
          refine R_aload_n (n := 47) dX8_readText_46 rfl rfl ?_
          refine ge_X8_63 (n := 50) dX8_readText_47 rfl (c9) ?_
          refine R_bipush (v := -9) (n := 52) dX8_readText_50 rfl rfl ?_
          refine R_icmp_ne_f (n := 55) dX8_readText_52 rfl rfl (rfl) ?_
          refine R_aload_n (n := 56) dX8_readText_55 rfl rfl ?_
          refine ge_X8_66 (n := 59) dX8_readText_56 rfl (c8) ?_
          refine R_aload_n (n := 60) dX8_readText_59 rfl rfl ?_
          refine ge_X8_60 (n := 63) dX8_readText_60 rfl (hl) ?_
          refine R_icmp_ge_t (tgt := 240) dX8_readText_63 rfl (by rw [nI_leI (by omega) (by omega)]; omega) ?_
          refine R_aload_n (n := 241) dX8_readText_240 rfl rfl ?_
          refine ge_X8_63 (n := 244) dX8_readText_241 rfl (c9) ?_
          rw [← c4]
          refine R_iret dX8_readText_244 rfl (rfl) (⟨rfl, fun _ => c7, c10⟩)
        | succ f ih =>
          intro p B μ2 c1 c2 c3 c4 c5 c6 c7 c8 c9 c10
          have hl := (c10.1 _ _ (by omega)).trans t1
          obtain ⟨r1, r2, r3, r4⟩ := id c7
          rw [ptx] at c4
          by_cases hlt : p < len
          · rw [if_pos hlt] at c4
            have hx := t4 p hlt
            have hT2 := hT.kept c10 (by omega) (fun k => by omega)
            have hu : μ2.1 131 p = nI (tx p) := hT2.2.2.1 p hlt
            refine R_aload_n (n := 47) dX8_readText_46 rfl rfl ?_
            refine ge_X8_63 (n := 50) dX8_readText_47 rfl (c9) ?_
            refine R_bipush (v := -9) (n := 52) dX8_readText_50 rfl rfl ?_
            refine R_icmp_ne_f (n := 55) dX8_readText_52 rfl rfl (rfl) ?_
            refine R_aload_n (n := 56) dX8_readText_55 rfl rfl ?_
            refine ge_X8_66 (n := 59) dX8_readText_56 rfl (c8) ?_
            refine R_aload_n (n := 60) dX8_readText_59 rfl rfl ?_
            refine ge_X8_60 (n := 63) dX8_readText_60 rfl (hl) ?_
            refine R_icmp_ge_f (n := 66) dX8_readText_63 rfl rfl (by rw [nI_leI (by omega) (by omega)]; omega) ?_
            refine R_aload_n (n := 67) dX8_readText_66 rfl rfl ?_
            refine gf_X8_25 (n := 70) dX8_readText_67 rfl ?_
            refine R_aload_n (n := 71) dX8_readText_70 rfl rfl ?_
            refine ge_X8_66 (n := 74) dX8_readText_71 rfl (c8) ?_
            refine R_iald_e (n := 75) sh_131 (rfl) (by omega) dX8_readText_74 rfl (hu) ?_
            refine R_bipush (v := nI 75) (n := 77) dX8_readText_75 rfl rfl ?_
            by_cases hK : tx p = 75
            · refine R_icmp_ne_f (n := 80) dX8_readText_77 rfl rfl (by rw [hK]) ?_
              refine R_aload_n (n := 81) dX8_readText_80 rfl rfl ?_
              refine ge_X8_69 (n := 84) dX8_readText_81 rfl (by first | exact r1 | (rw [sti_1_pf _ _ _ _ _ _ (by omega)]; exact r1) | (rw [sti_1_pf _ _ _ _ _ _ (by omega), sti_1_pf _ _ _ _ _ _ (by omega)]; exact r1) | (rw [sti_1_pf _ _ _ _ _ _ (by omega), sti_1_pf _ _ _ _ _ _ (by omega), sti_1_pf _ _ _ _ _ _ (by omega)]; exact r1) | (rw [sti_1_pf _ _ _ _ _ _ (by omega), sti_1_pf _ _ _ _ _ _ (by omega), sti_1_pf _ _ _ _ _ _ (by omega), sti_1_pf _ _ _ _ _ _ (by omega)]; exact r1) | (rw [sti_1_pf _ _ _ _ _ _ (by omega), sti_1_pf _ _ _ _ _ _ (by omega), sti_1_pf _ _ _ _ _ _ (by omega), sti_1_pf _ _ _ _ _ _ (by omega), sti_1_pf _ _ _ _ _ _ (by omega)]; exact r1)) ?_
              refine R_iconst (v := nI 5) (n := 85) dX8_readText_84 rfl rfl ?_
              by_cases hk : B.1 < 5
              · rw [if_pos ⟨hK, hk⟩] at c4
                refine R_icmp_ge_f (n := 88) dX8_readText_85 rfl rfl (by rw [nI_leI (by omega) (by omega)]; omega) ?_
                refine R_aload_n (n := 89) dX8_readText_88 rfl rfl ?_
                refine R_dup (n := 90) dX8_readText_89 rfl rfl ?_
                refine ge_X8_66 (n := 93) dX8_readText_90 rfl (c8) ?_
                refine R_iconst (v := nI 1) (n := 94) dX8_readText_93 rfl rfl ?_
                refine R_iadd_n (n := 95) dX8_readText_94 rfl ?_
                refine pf_X8_66 (n := 98) dX8_readText_95 rfl ?_
                refine R_aload_n (n := 99) dX8_readText_98 rfl rfl ?_
                refine gf_X8_19 (n := 102) dX8_readText_99 rfl ?_
                refine R_aload_n (n := 103) dX8_readText_102 rfl rfl ?_
                refine ge_X8_69 (n := 106) dX8_readText_103 rfl (by first | exact r1 | (rw [sti_1_pf _ _ _ _ _ _ (by omega)]; exact r1) | (rw [sti_1_pf _ _ _ _ _ _ (by omega), sti_1_pf _ _ _ _ _ _ (by omega)]; exact r1) | (rw [sti_1_pf _ _ _ _ _ _ (by omega), sti_1_pf _ _ _ _ _ _ (by omega), sti_1_pf _ _ _ _ _ _ (by omega)]; exact r1) | (rw [sti_1_pf _ _ _ _ _ _ (by omega), sti_1_pf _ _ _ _ _ _ (by omega), sti_1_pf _ _ _ _ _ _ (by omega), sti_1_pf _ _ _ _ _ _ (by omega)]; exact r1) | (rw [sti_1_pf _ _ _ _ _ _ (by omega), sti_1_pf _ _ _ _ _ _ (by omega), sti_1_pf _ _ _ _ _ _ (by omega), sti_1_pf _ _ _ _ _ _ (by omega), sti_1_pf _ _ _ _ _ _ (by omega)]; exact r1)) ?_
                refine R_aload_n (n := 107) dX8_readText_106 rfl rfl ?_
                refine R_iconst (v := nI 0) (n := 108) dX8_readText_107 rfl rfl ?_
                refine R_iconst (v := nI 3) (n := 109) dX8_readText_108 rfl rfl ?_
                have d1 : Sme Prd μ (sti μ2 125 11 (nI (p + 1))) := c10.sti (by omega)
                have d2 := hT.kept d1 (by omega) (fun k => by omega)
                by_cases hd : p + 1 < len ∧ 48 ≤ tx (p + 1) ∧ tx (p + 1) ≤ 51
                · rw [if_pos hd] at c4
                  refine iv_X8_75 (n := 112) (ct_X8_figure_ok (p := p + 1) (lo := 0) (hi := 3) d2 (by rw [sti_1_eq]) (by rw [sti_1_pf _ _ _ _ _ _ (by omega)]; exact c9) (by omega) hd) (by decide) dX8_readText_109 rfl (Nat.le_of_ble_eq_true rfl) (fun r μ' hq => ?_)
                  obtain ⟨rfl, rfl⟩ := hq
                  refine R_iast (n := 113) sh_129 (rfl) (by omega) dX8_readText_112 rfl ?_
                  refine R_aload_n (n := 114) dX8_readText_113 rfl rfl ?_
                  refine R_dup (n := 115) dX8_readText_114 rfl rfl ?_
                  refine ge_X8_69 (n := 118) dX8_readText_115 rfl (by first | exact r1 | (rw [sti_1_pf _ _ _ _ _ _ (by omega)]; exact r1) | (rw [sti_1_pf _ _ _ _ _ _ (by omega), sti_1_pf _ _ _ _ _ _ (by omega)]; exact r1) | (rw [sti_1_pf _ _ _ _ _ _ (by omega), sti_1_pf _ _ _ _ _ _ (by omega), sti_1_pf _ _ _ _ _ _ (by omega)]; exact r1) | (rw [sti_1_pf _ _ _ _ _ _ (by omega), sti_1_pf _ _ _ _ _ _ (by omega), sti_1_pf _ _ _ _ _ _ (by omega), sti_1_pf _ _ _ _ _ _ (by omega)]; exact r1) | (rw [sti_1_pf _ _ _ _ _ _ (by omega), sti_1_pf _ _ _ _ _ _ (by omega), sti_1_pf _ _ _ _ _ _ (by omega), sti_1_pf _ _ _ _ _ _ (by omega), sti_1_pf _ _ _ _ _ _ (by omega)]; exact r1)) ?_
                  refine R_iconst (v := nI 1) (n := 119) dX8_readText_118 rfl rfl ?_
                  refine R_iadd_n (n := 120) dX8_readText_119 rfl ?_
                  refine pf_X8_69 (n := 123) dX8_readText_120 rfl ?_
                  refine R_goto (tgt := 46) dX8_readText_123 rfl ?_
                  refine ih (p + 2) _ _ (by omega) (by omega) (by omega) c4 hk c6 ⟨?_, ?_, fun k hkk => ?_, fun j hj => ?_⟩ ?_ ?_ (((d1.sti (by omega)).sti (by omega)).sti (by omega))
                  · rw [sti_1_eq]
                  · repeat rw [sti_1_pf _ _ _ _ _ _ (by omega)]
                    exact r2
                  · rw [sti_1_ne _ _ _ (by omega), sti_1]
                    show _ = nI (if k = B.1 then _ else _)
                    by_cases e : k = B.1
                    · rw [if_pos ⟨rfl, e⟩, if_pos e]
                    · rw [if_neg (fun z => e z.2), if_neg e, sti_1_ne _ _ _ (by omega), sti_1_ne _ _ _ (by omega)]; exact r3 k (by dsimp only at hkk; omega)
                  · repeat rw [sti_1_ne _ _ _ (by omega)]
                    exact r4 j hj
                  · rw [sti_1_pf _ _ _ _ _ _ (by omega), sti_1_pf _ _ _ _ _ _ (by omega), sti_1_eq]
                  · repeat rw [sti_1_pf _ _ _ _ _ _ (by omega)]
                    exact c9
                · rw [if_neg hd] at c4
                  refine iv_X8_75 (n := 112) (ct_X8_figure_bad (p := p + 1) (lo := 0) (hi := 3) d2 (by rw [sti_1_eq]) (by rw [sti_1_pf _ _ _ _ _ _ (by omega)]; exact c9) (by omega) (by omega) (by omega) hd) (by decide) dX8_readText_109 rfl (Nat.le_of_ble_eq_true rfl) (fun r μ' hq => ?_)
                  obtain ⟨rfl, rfl⟩ := hq
                  refine R_iast (n := 113) sh_129 (rfl) (by omega) dX8_readText_112 rfl ?_
                  refine R_aload_n (n := 114) dX8_readText_113 rfl rfl ?_
                  refine R_dup (n := 115) dX8_readText_114 rfl rfl ?_
                  refine ge_X8_69 (n := 118) dX8_readText_115 rfl (by first | exact r1 | (rw [sti_1_pf _ _ _ _ _ _ (by omega)]; exact r1) | (rw [sti_1_pf _ _ _ _ _ _ (by omega), sti_1_pf _ _ _ _ _ _ (by omega)]; exact r1) | (rw [sti_1_pf _ _ _ _ _ _ (by omega), sti_1_pf _ _ _ _ _ _ (by omega), sti_1_pf _ _ _ _ _ _ (by omega)]; exact r1) | (rw [sti_1_pf _ _ _ _ _ _ (by omega), sti_1_pf _ _ _ _ _ _ (by omega), sti_1_pf _ _ _ _ _ _ (by omega), sti_1_pf _ _ _ _ _ _ (by omega)]; exact r1) | (rw [sti_1_pf _ _ _ _ _ _ (by omega), sti_1_pf _ _ _ _ _ _ (by omega), sti_1_pf _ _ _ _ _ _ (by omega), sti_1_pf _ _ _ _ _ _ (by omega), sti_1_pf _ _ _ _ _ _ (by omega)]; exact r1)) ?_
                  refine R_iconst (v := nI 1) (n := 119) dX8_readText_118 rfl rfl ?_
                  refine R_iadd_n (n := 120) dX8_readText_119 rfl ?_
                  refine pf_X8_69 (n := 123) dX8_readText_120 rfl ?_
                  refine R_goto (tgt := 46) dX8_readText_123 rfl ?_
                  refine exitF (p + 1) _ (by omega) ?_ (((d1.sti (by omega)).sti (by omega)).sti (by omega)) (by rw [← c4])
                  rw [sti_1_pf _ _ _ _ _ _ (by omega), sti_1_pf _ _ _ _ _ _ (by omega), sti_1_eq]
              · rw [if_neg (fun z => hk z.2), if_neg (fun z => absurd z.1 (by omega))] at c4
                refine R_icmp_ge_t (tgt := 126) dX8_readText_85 rfl (by rw [nI_leI (by omega) (by omega)]; omega) ?_
                refine R_aload_n (n := 127) dX8_readText_126 rfl rfl ?_
                refine gf_X8_25 (n := 130) dX8_readText_127 rfl ?_
                refine R_aload_n (n := 131) dX8_readText_130 rfl rfl ?_
                refine ge_X8_66 (n := 134) dX8_readText_131 rfl (c8) ?_
                refine R_iald_e (n := 135) sh_131 (rfl) (by omega) dX8_readText_134 rfl (hu) ?_
                refine R_bipush (v := nI 66) (n := 137) dX8_readText_135 rfl rfl ?_
                refine R_icmp_ne_t (tgt := 229) dX8_readText_137 rfl (by rw [nI_eq (by omega) (by omega)]; omega) ?_
                refine R_aload_n (n := 230) dX8_readText_229 rfl rfl ?_
                refine R_aload_n (n := 231) dX8_readText_230 rfl rfl ?_
                refine ge_X8_66 (n := 234) dX8_readText_231 rfl (c8) ?_
                refine pf_X8_63 (n := 237) dX8_readText_234 rfl ?_
                refine R_goto (tgt := 46) dX8_readText_237 rfl ?_
                exact exitF p _ (by omega) (by rw [sti_1_eq]) (c10.sti (by omega)) (by rw [← c4])
            · rw [if_neg (fun z => hK z.1)] at c4
              refine R_icmp_ne_t (tgt := 126) dX8_readText_77 rfl (by rw [nI_eq (by omega) (by omega)]; omega) ?_
              refine R_aload_n (n := 127) dX8_readText_126 rfl rfl ?_
              refine gf_X8_25 (n := 130) dX8_readText_127 rfl ?_
              refine R_aload_n (n := 131) dX8_readText_130 rfl rfl ?_
              refine ge_X8_66 (n := 134) dX8_readText_131 rfl (c8) ?_
              refine R_iald_e (n := 135) sh_131 (rfl) (by omega) dX8_readText_134 rfl (hu) ?_
              refine R_bipush (v := nI 66) (n := 137) dX8_readText_135 rfl rfl ?_
              by_cases hB : tx p = 66
              · refine R_icmp_ne_f (n := 140) dX8_readText_137 rfl rfl (by rw [hB]) ?_
                refine R_aload_n (n := 141) dX8_readText_140 rfl rfl ?_
                refine ge_X8_72 (n := 144) dX8_readText_141 rfl (by first | exact r2 | (rw [sti_1_pf _ _ _ _ _ _ (by omega)]; exact r2) | (rw [sti_1_pf _ _ _ _ _ _ (by omega), sti_1_pf _ _ _ _ _ _ (by omega)]; exact r2) | (rw [sti_1_pf _ _ _ _ _ _ (by omega), sti_1_pf _ _ _ _ _ _ (by omega), sti_1_pf _ _ _ _ _ _ (by omega)]; exact r2) | (rw [sti_1_pf _ _ _ _ _ _ (by omega), sti_1_pf _ _ _ _ _ _ (by omega), sti_1_pf _ _ _ _ _ _ (by omega), sti_1_pf _ _ _ _ _ _ (by omega)]; exact r2) | (rw [sti_1_pf _ _ _ _ _ _ (by omega), sti_1_pf _ _ _ _ _ _ (by omega), sti_1_pf _ _ _ _ _ _ (by omega), sti_1_pf _ _ _ _ _ _ (by omega), sti_1_pf _ _ _ _ _ _ (by omega)]; exact r2)) ?_
                refine R_bipush (v := nI 6) (n := 146) dX8_readText_144 rfl rfl ?_
                by_cases hk : B.2.1 < 6
                · rw [if_pos ⟨hB, hk⟩] at c4
                  refine R_icmp_ge_f (n := 149) dX8_readText_146 rfl rfl (by rw [nI_leI (by omega) (by omega)]; omega) ?_
                  refine R_aload_n (n := 150) dX8_readText_149 rfl rfl ?_
                  refine R_dup (n := 151) dX8_readText_150 rfl rfl ?_
                  refine ge_X8_66 (n := 154) dX8_readText_151 rfl (c8) ?_
                  refine R_iconst (v := nI 1) (n := 155) dX8_readText_154 rfl rfl ?_
                  refine R_iadd_n (n := 156) dX8_readText_155 rfl ?_
                  refine pf_X8_66 (n := 159) dX8_readText_156 rfl ?_
                  refine R_aload_n (n := 160) dX8_readText_159 rfl rfl ?_
                  refine gf_X8_22 (n := 163) dX8_readText_160 rfl ?_
                  refine R_iconst (v := nI 3) (n := 164) dX8_readText_163 rfl rfl ?_
                  refine R_aload_n (n := 165) dX8_readText_164 rfl rfl ?_
                  refine ge_X8_72 (n := 168) dX8_readText_165 rfl (by first | exact r2 | (rw [sti_1_pf _ _ _ _ _ _ (by omega)]; exact r2) | (rw [sti_1_pf _ _ _ _ _ _ (by omega), sti_1_pf _ _ _ _ _ _ (by omega)]; exact r2) | (rw [sti_1_pf _ _ _ _ _ _ (by omega), sti_1_pf _ _ _ _ _ _ (by omega), sti_1_pf _ _ _ _ _ _ (by omega)]; exact r2) | (rw [sti_1_pf _ _ _ _ _ _ (by omega), sti_1_pf _ _ _ _ _ _ (by omega), sti_1_pf _ _ _ _ _ _ (by omega), sti_1_pf _ _ _ _ _ _ (by omega)]; exact r2) | (rw [sti_1_pf _ _ _ _ _ _ (by omega), sti_1_pf _ _ _ _ _ _ (by omega), sti_1_pf _ _ _ _ _ _ (by omega), sti_1_pf _ _ _ _ _ _ (by omega), sti_1_pf _ _ _ _ _ _ (by omega)]; exact r2)) ?_
                  refine R_imul_n (n := 169) dX8_readText_168 rfl ?_
                  refine R_aload_n (n := 170) dX8_readText_169 rfl rfl ?_
                  refine R_iconst (v := nI 1) (n := 171) dX8_readText_170 rfl rfl ?_
                  refine R_iconst (v := nI 2) (n := 172) dX8_readText_171 rfl rfl ?_
                  have d1 : Sme Prd μ (sti μ2 125 11 (nI (p + 1))) := c10.sti (by omega)
                  have d2 := hT.kept d1 (by omega) (fun k => by omega)
                  by_cases hd : p + 1 < len ∧ 49 ≤ tx (p + 1) ∧ tx (p + 1) ≤ 50
                  · rw [if_pos hd] at c4
                    refine iv_X8_75 (n := 175) (ct_X8_figure_ok (p := p + 1) (lo := 1) (hi := 2) d2 (by rw [sti_1_eq]) (by rw [sti_1_pf _ _ _ _ _ _ (by omega)]; exact c9) (by omega) hd) (by decide) dX8_readText_172 rfl (Nat.le_of_ble_eq_true rfl) (fun r μ' hq => ?_)
                    obtain ⟨rfl, rfl⟩ := hq
                    refine R_iast (n := 176) sh_130 (rfl) (by omega) dX8_readText_175 rfl ?_
                    refine R_aload_n (n := 177) dX8_readText_176 rfl rfl ?_
                    refine gf_X8_22 (n := 180) dX8_readText_177 rfl ?_
                    refine R_iconst (v := nI 3) (n := 181) dX8_readText_180 rfl rfl ?_
                    refine R_aload_n (n := 182) dX8_readText_181 rfl rfl ?_
                    refine ge_X8_72 (n := 185) dX8_readText_182 rfl (by first | exact r2 | (rw [sti_1_pf _ _ _ _ _ _ (by omega)]; exact r2) | (rw [sti_1_pf _ _ _ _ _ _ (by omega), sti_1_pf _ _ _ _ _ _ (by omega)]; exact r2) | (rw [sti_1_pf _ _ _ _ _ _ (by omega), sti_1_pf _ _ _ _ _ _ (by omega), sti_1_pf _ _ _ _ _ _ (by omega)]; exact r2) | (rw [sti_1_pf _ _ _ _ _ _ (by omega), sti_1_pf _ _ _ _ _ _ (by omega), sti_1_pf _ _ _ _ _ _ (by omega), sti_1_pf _ _ _ _ _ _ (by omega)]; exact r2) | (rw [sti_1_pf _ _ _ _ _ _ (by omega), sti_1_pf _ _ _ _ _ _ (by omega), sti_1_pf _ _ _ _ _ _ (by omega), sti_1_pf _ _ _ _ _ _ (by omega), sti_1_pf _ _ _ _ _ _ (by omega)]; exact r2)) ?_
                    refine R_imul_n (n := 186) dX8_readText_185 rfl ?_
                    refine R_iconst (v := nI 1) (n := 187) dX8_readText_186 rfl rfl ?_
                    refine R_iadd_n (n := 188) dX8_readText_187 rfl ?_
                    refine R_aload_n (n := 189) dX8_readText_188 rfl rfl ?_
                    refine R_iconst (v := nI 0) (n := 190) dX8_readText_189 rfl rfl ?_
                    refine R_bipush (v := nI 9) (n := 192) dX8_readText_190 rfl rfl ?_
                    have d3 : Sme Prd μ (sti (sti (sti μ2 125 11 (nI (p + 1))) 125 11 (nI (p + 1 + 1))) 130 (3 * B.2.1) (nI (tx (p + 1) - 48))) := (d1.sti (by omega)).sti (by omega)
                    have d4 := hT.kept d3 (by omega) (fun k => by omega)
                    by_cases hd2 : p + 2 < len ∧ 48 ≤ tx (p + 2) ∧ tx (p + 2) ≤ 57
                    · rw [if_pos hd2] at c4
                      refine iv_X8_75 (n := 195) (ct_X8_figure_ok (p := p + 2) (lo := 0) (hi := 9) d4 (by rw [sti_1_pf _ _ _ _ _ _ (by omega), sti_1_eq]) (by repeat rw [sti_1_pf _ _ _ _ _ _ (by omega)]; exact c9) (by omega) hd2) (by decide) dX8_readText_192 rfl (Nat.le_of_ble_eq_true rfl) (fun r μ' hq => ?_)
                      obtain ⟨rfl, rfl⟩ := hq
                      refine R_iast (n := 196) sh_130 (rfl) (by omega) dX8_readText_195 rfl ?_
                      refine R_aload_n (n := 197) dX8_readText_196 rfl rfl ?_
                      refine gf_X8_22 (n := 200) dX8_readText_197 rfl ?_
                      refine R_iconst (v := nI 3) (n := 201) dX8_readText_200 rfl rfl ?_
                      refine R_aload_n (n := 202) dX8_readText_201 rfl rfl ?_
                      refine ge_X8_72 (n := 205) dX8_readText_202 rfl (by first | exact r2 | (rw [sti_1_pf _ _ _ _ _ _ (by omega)]; exact r2) | (rw [sti_1_pf _ _ _ _ _ _ (by omega), sti_1_pf _ _ _ _ _ _ (by omega)]; exact r2) | (rw [sti_1_pf _ _ _ _ _ _ (by omega), sti_1_pf _ _ _ _ _ _ (by omega), sti_1_pf _ _ _ _ _ _ (by omega)]; exact r2) | (rw [sti_1_pf _ _ _ _ _ _ (by omega), sti_1_pf _ _ _ _ _ _ (by omega), sti_1_pf _ _ _ _ _ _ (by omega), sti_1_pf _ _ _ _ _ _ (by omega)]; exact r2) | (rw [sti_1_pf _ _ _ _ _ _ (by omega), sti_1_pf _ _ _ _ _ _ (by omega), sti_1_pf _ _ _ _ _ _ (by omega), sti_1_pf _ _ _ _ _ _ (by omega), sti_1_pf _ _ _ _ _ _ (by omega)]; exact r2)) ?_
                      refine R_imul_n (n := 206) dX8_readText_205 rfl ?_
                      refine R_iconst (v := nI 2) (n := 207) dX8_readText_206 rfl rfl ?_
                      refine R_iadd_n (n := 208) dX8_readText_207 rfl ?_
                      refine R_aload_n (n := 209) dX8_readText_208 rfl rfl ?_
                      refine R_iconst (v := nI 0) (n := 210) dX8_readText_209 rfl rfl ?_
                      refine R_bipush (v := nI 9) (n := 212) dX8_readText_210 rfl rfl ?_
                      have d5 := (d3.sti (i := 125) (k := 11) (x := nI (p + 2 + 1)) (by omega)).sti (i := 130) (k := 3 * B.2.1 + 1) (x := nI (tx (p + 2) - 48)) (by omega)
                      have d6 := hT.kept d5 (by omega) (fun k => by omega)
                      by_cases hd3 : p + 3 < len ∧ 48 ≤ tx (p + 3) ∧ tx (p + 3) ≤ 57
                      · rw [if_pos hd3] at c4
                        refine iv_X8_75 (n := 215) (ct_X8_figure_ok (p := p + 3) (lo := 0) (hi := 9) d6 (by rw [sti_1_pf _ _ _ _ _ _ (by omega), sti_1_eq]) (by repeat rw [sti_1_pf _ _ _ _ _ _ (by omega)]; exact c9) (by omega) hd3) (by decide) dX8_readText_212 rfl (Nat.le_of_ble_eq_true rfl) (fun r μ' hq => ?_)
                        obtain ⟨rfl, rfl⟩ := hq
                        refine R_iast (n := 216) sh_130 (rfl) (by omega) dX8_readText_215 rfl ?_
                        refine R_aload_n (n := 217) dX8_readText_216 rfl rfl ?_
                        refine R_dup (n := 218) dX8_readText_217 rfl rfl ?_
                        refine ge_X8_72 (n := 221) dX8_readText_218 rfl (by first | exact r2 | (rw [sti_1_pf _ _ _ _ _ _ (by omega)]; exact r2) | (rw [sti_1_pf _ _ _ _ _ _ (by omega), sti_1_pf _ _ _ _ _ _ (by omega)]; exact r2) | (rw [sti_1_pf _ _ _ _ _ _ (by omega), sti_1_pf _ _ _ _ _ _ (by omega), sti_1_pf _ _ _ _ _ _ (by omega)]; exact r2) | (rw [sti_1_pf _ _ _ _ _ _ (by omega), sti_1_pf _ _ _ _ _ _ (by omega), sti_1_pf _ _ _ _ _ _ (by omega), sti_1_pf _ _ _ _ _ _ (by omega)]; exact r2) | (rw [sti_1_pf _ _ _ _ _ _ (by omega), sti_1_pf _ _ _ _ _ _ (by omega), sti_1_pf _ _ _ _ _ _ (by omega), sti_1_pf _ _ _ _ _ _ (by omega), sti_1_pf _ _ _ _ _ _ (by omega)]; exact r2)) ?_
                        refine R_iconst (v := nI 1) (n := 222) dX8_readText_221 rfl rfl ?_
                        refine R_iadd_n (n := 223) dX8_readText_222 rfl ?_
                        refine pf_X8_72 (n := 226) dX8_readText_223 rfl ?_
                        refine R_goto (tgt := 46) dX8_readText_226 rfl ?_
                        refine ih (p + 4) _ _ (by omega) (by omega) (by omega) c4 c5 hk ⟨?_, ?_, fun k hkk => ?_, fun j hj => ?_⟩ ?_ ?_ (((d5.sti (by omega)).sti (by omega)).sti (by omega))
                        · repeat rw [sti_1_pf _ _ _ _ _ _ (by omega)]
                          exact r1
                        · rw [sti_1_eq]
                        · repeat rw [sti_1_ne _ _ _ (by omega)]
                          exact r3 k hkk
                        · dsimp only at hj
                          by_cases e : j = B.2.1
                          · subst e
                            refine ⟨?_, ?_, ?_⟩
                            · repeat rw [sti_1_pf _ _ _ _ _ _ (by omega)]
                              rw [sti_1_eq]
                              exact congrArg nI (by show _ = if _ then _ else _; rw [if_pos rfl])
                            · repeat rw [sti_1_pf _ _ _ _ _ _ (by omega)]
                              rw [sti_1_eq]
                              exact congrArg nI (by show _ = if _ then _ else if _ then _ else _; rw [if_neg (by omega), if_pos rfl])
                            · repeat rw [sti_1_pf _ _ _ _ _ _ (by omega)]
                              rw [sti_1_eq]
                              exact congrArg nI (by show _ = if _ then _ else if _ then _ else if _ then _ else _; rw [if_neg (by omega), if_neg (by omega), if_pos rfl])
                          · have e3 : ∀ i, i < 3 → upd3 B.2.2.2 B.2.1 (tx (p + 1) - 48) (tx (p + 2) - 48) (tx (p + 3) - 48) (3 * j + i) = B.2.2.2 (3 * j + i) := by
                              intro i hi
                              unfold upd3
                              rw [if_neg (by omega), if_neg (by omega), if_neg (by omega)]
                            repeat rw [sti_1_pf _ _ _ _ _ _ (by omega)]
                            obtain ⟨w1, w2, w3⟩ := r4 j (by omega)
                            exact ⟨w1.trans (congrArg nI (e3 0 (by omega)).symm), w2.trans (congrArg nI (e3 1 (by omega)).symm), w3.trans (congrArg nI (e3 2 (by omega)).symm)⟩
                        · rw [sti_1_pf _ _ _ _ _ _ (by omega), sti_1_pf _ _ _ _ _ _ (by omega), sti_1_eq]
                        · repeat rw [sti_1_pf _ _ _ _ _ _ (by omega)]
                          exact c9
                      · rw [if_neg hd3] at c4
                        refine iv_X8_75 (n := 215) (ct_X8_figure_bad (p := p + 3) (lo := 0) (hi := 9) d6 (by rw [sti_1_pf _ _ _ _ _ _ (by omega), sti_1_eq]) (by repeat rw [sti_1_pf _ _ _ _ _ _ (by omega)]; exact c9) (by omega) (by omega) (by omega) hd3) (by decide) dX8_readText_212 rfl (Nat.le_of_ble_eq_true rfl) (fun r μ' hq => ?_)
                        obtain ⟨rfl, rfl⟩ := hq
                        refine R_iast (n := 216) sh_130 (rfl) (by omega) dX8_readText_215 rfl ?_
                        refine R_aload_n (n := 217) dX8_readText_216 rfl rfl ?_
                        refine R_dup (n := 218) dX8_readText_217 rfl rfl ?_
                        refine ge_X8_72 (n := 221) dX8_readText_218 rfl (by first | exact r2 | (rw [sti_1_pf _ _ _ _ _ _ (by omega)]; exact r2) | (rw [sti_1_pf _ _ _ _ _ _ (by omega), sti_1_pf _ _ _ _ _ _ (by omega)]; exact r2) | (rw [sti_1_pf _ _ _ _ _ _ (by omega), sti_1_pf _ _ _ _ _ _ (by omega), sti_1_pf _ _ _ _ _ _ (by omega)]; exact r2) | (rw [sti_1_pf _ _ _ _ _ _ (by omega), sti_1_pf _ _ _ _ _ _ (by omega), sti_1_pf _ _ _ _ _ _ (by omega), sti_1_pf _ _ _ _ _ _ (by omega)]; exact r2) | (rw [sti_1_pf _ _ _ _ _ _ (by omega), sti_1_pf _ _ _ _ _ _ (by omega), sti_1_pf _ _ _ _ _ _ (by omega), sti_1_pf _ _ _ _ _ _ (by omega), sti_1_pf _ _ _ _ _ _ (by omega)]; exact r2)) ?_
                        refine R_iconst (v := nI 1) (n := 222) dX8_readText_221 rfl rfl ?_
                        refine R_iadd_n (n := 223) dX8_readText_222 rfl ?_
                        refine pf_X8_72 (n := 226) dX8_readText_223 rfl ?_
                        refine R_goto (tgt := 46) dX8_readText_226 rfl ?_
                        refine exitF (p + 3) _ (by omega) ?_ (((d5.sti (by omega)).sti (by omega)).sti (by omega)) (by rw [← c4])
                        rw [sti_1_pf _ _ _ _ _ _ (by omega), sti_1_pf _ _ _ _ _ _ (by omega), sti_1_eq]
                    · rw [if_neg hd2] at c4
                      refine iv_X8_75 (n := 195) (ct_X8_figure_bad (p := p + 2) (lo := 0) (hi := 9) d4 (by rw [sti_1_pf _ _ _ _ _ _ (by omega), sti_1_eq]) (by repeat rw [sti_1_pf _ _ _ _ _ _ (by omega)]; exact c9) (by omega) (by omega) (by omega) hd2) (by decide) dX8_readText_192 rfl (Nat.le_of_ble_eq_true rfl) (fun r μ' hq => ?_)
                      obtain ⟨rfl, rfl⟩ := hq
                      refine R_iast (n := 196) sh_130 (rfl) (by omega) dX8_readText_195 rfl ?_
                      refine R_aload_n (n := 197) dX8_readText_196 rfl rfl ?_
                      refine gf_X8_22 (n := 200) dX8_readText_197 rfl ?_
                      refine R_iconst (v := nI 3) (n := 201) dX8_readText_200 rfl rfl ?_
                      refine R_aload_n (n := 202) dX8_readText_201 rfl rfl ?_
                      refine ge_X8_72 (n := 205) dX8_readText_202 rfl (by first | exact r2 | (rw [sti_1_pf _ _ _ _ _ _ (by omega)]; exact r2) | (rw [sti_1_pf _ _ _ _ _ _ (by omega), sti_1_pf _ _ _ _ _ _ (by omega)]; exact r2) | (rw [sti_1_pf _ _ _ _ _ _ (by omega), sti_1_pf _ _ _ _ _ _ (by omega), sti_1_pf _ _ _ _ _ _ (by omega)]; exact r2) | (rw [sti_1_pf _ _ _ _ _ _ (by omega), sti_1_pf _ _ _ _ _ _ (by omega), sti_1_pf _ _ _ _ _ _ (by omega), sti_1_pf _ _ _ _ _ _ (by omega)]; exact r2) | (rw [sti_1_pf _ _ _ _ _ _ (by omega), sti_1_pf _ _ _ _ _ _ (by omega), sti_1_pf _ _ _ _ _ _ (by omega), sti_1_pf _ _ _ _ _ _ (by omega), sti_1_pf _ _ _ _ _ _ (by omega)]; exact r2)) ?_
                      refine R_imul_n (n := 206) dX8_readText_205 rfl ?_
                      refine R_iconst (v := nI 2) (n := 207) dX8_readText_206 rfl rfl ?_
                      refine R_iadd_n (n := 208) dX8_readText_207 rfl ?_
                      refine R_aload_n (n := 209) dX8_readText_208 rfl rfl ?_
                      refine R_iconst (v := nI 0) (n := 210) dX8_readText_209 rfl rfl ?_
                      refine R_bipush (v := nI 9) (n := 212) dX8_readText_210 rfl rfl ?_
                      refine iv_X8_75 (n := 215) (ct_X8_figure_dead (q := p + 2) (lo := 0) (hi := 9) (by rw [sti_1_pf _ _ _ _ _ _ (by omega), sti_1_eq]) (by omega) (by omega)) (by decide) dX8_readText_212 rfl (Nat.le_of_ble_eq_true rfl) (fun r μ' hq => ?_)
                      obtain ⟨rfl, rfl⟩ := hq
                      refine R_iast (n := 216) sh_130 (rfl) (by omega) dX8_readText_215 rfl ?_
                      refine R_aload_n (n := 217) dX8_readText_216 rfl rfl ?_
                      refine R_dup (n := 218) dX8_readText_217 rfl rfl ?_
                      refine ge_X8_72 (n := 221) dX8_readText_218 rfl (by first | exact r2 | (rw [sti_1_pf _ _ _ _ _ _ (by omega)]; exact r2) | (rw [sti_1_pf _ _ _ _ _ _ (by omega), sti_1_pf _ _ _ _ _ _ (by omega)]; exact r2) | (rw [sti_1_pf _ _ _ _ _ _ (by omega), sti_1_pf _ _ _ _ _ _ (by omega), sti_1_pf _ _ _ _ _ _ (by omega)]; exact r2) | (rw [sti_1_pf _ _ _ _ _ _ (by omega), sti_1_pf _ _ _ _ _ _ (by omega), sti_1_pf _ _ _ _ _ _ (by omega), sti_1_pf _ _ _ _ _ _ (by omega)]; exact r2) | (rw [sti_1_pf _ _ _ _ _ _ (by omega), sti_1_pf _ _ _ _ _ _ (by omega), sti_1_pf _ _ _ _ _ _ (by omega), sti_1_pf _ _ _ _ _ _ (by omega), sti_1_pf _ _ _ _ _ _ (by omega)]; exact r2)) ?_
                      refine R_iconst (v := nI 1) (n := 222) dX8_readText_221 rfl rfl ?_
                      refine R_iadd_n (n := 223) dX8_readText_222 rfl ?_
                      refine pf_X8_72 (n := 226) dX8_readText_223 rfl ?_
                      refine R_goto (tgt := 46) dX8_readText_226 rfl ?_
                      refine exitF (p + 2) _ (by omega) ?_ (((((d3.sti (by omega)).sti (by omega)).sti (by omega)).sti (by omega)).sti (by omega)) (by rw [← c4])
                      rw [sti_1_pf _ _ _ _ _ _ (by omega), sti_1_pf _ _ _ _ _ _ (by omega), sti_1_eq]
                  · rw [if_neg hd] at c4
                    refine iv_X8_75 (n := 175) (ct_X8_figure_bad (p := p + 1) (lo := 1) (hi := 2) d2 (by rw [sti_1_eq]) (by rw [sti_1_pf _ _ _ _ _ _ (by omega)]; exact c9) (by omega) (by omega) (by omega) hd) (by decide) dX8_readText_172 rfl (Nat.le_of_ble_eq_true rfl) (fun r μ' hq => ?_)
                    obtain ⟨rfl, rfl⟩ := hq
                    refine R_iast (n := 176) sh_130 (rfl) (by omega) dX8_readText_175 rfl ?_
                    refine R_aload_n (n := 177) dX8_readText_176 rfl rfl ?_
                    refine gf_X8_22 (n := 180) dX8_readText_177 rfl ?_
                    refine R_iconst (v := nI 3) (n := 181) dX8_readText_180 rfl rfl ?_
                    refine R_aload_n (n := 182) dX8_readText_181 rfl rfl ?_
                    refine ge_X8_72 (n := 185) dX8_readText_182 rfl (by first | exact r2 | (rw [sti_1_pf _ _ _ _ _ _ (by omega)]; exact r2) | (rw [sti_1_pf _ _ _ _ _ _ (by omega), sti_1_pf _ _ _ _ _ _ (by omega)]; exact r2) | (rw [sti_1_pf _ _ _ _ _ _ (by omega), sti_1_pf _ _ _ _ _ _ (by omega), sti_1_pf _ _ _ _ _ _ (by omega)]; exact r2) | (rw [sti_1_pf _ _ _ _ _ _ (by omega), sti_1_pf _ _ _ _ _ _ (by omega), sti_1_pf _ _ _ _ _ _ (by omega), sti_1_pf _ _ _ _ _ _ (by omega)]; exact r2) | (rw [sti_1_pf _ _ _ _ _ _ (by omega), sti_1_pf _ _ _ _ _ _ (by omega), sti_1_pf _ _ _ _ _ _ (by omega), sti_1_pf _ _ _ _ _ _ (by omega), sti_1_pf _ _ _ _ _ _ (by omega)]; exact r2)) ?_
                    refine R_imul_n (n := 186) dX8_readText_185 rfl ?_
                    refine R_iconst (v := nI 1) (n := 187) dX8_readText_186 rfl rfl ?_
                    refine R_iadd_n (n := 188) dX8_readText_187 rfl ?_
                    refine R_aload_n (n := 189) dX8_readText_188 rfl rfl ?_
                    refine R_iconst (v := nI 0) (n := 190) dX8_readText_189 rfl rfl ?_
                    refine R_bipush (v := nI 9) (n := 192) dX8_readText_190 rfl rfl ?_
                    refine iv_X8_75 (n := 195) (ct_X8_figure_dead (q := p + 1) (lo := 0) (hi := 9) (by rw [sti_1_pf _ _ _ _ _ _ (by omega), sti_1_eq]) (by omega) (by omega)) (by decide) dX8_readText_192 rfl (Nat.le_of_ble_eq_true rfl) (fun r μ' hq => ?_)
                    obtain ⟨rfl, rfl⟩ := hq
                    refine R_iast (n := 196) sh_130 (rfl) (by omega) dX8_readText_195 rfl ?_
                    refine R_aload_n (n := 197) dX8_readText_196 rfl rfl ?_
                    refine gf_X8_22 (n := 200) dX8_readText_197 rfl ?_
                    refine R_iconst (v := nI 3) (n := 201) dX8_readText_200 rfl rfl ?_
                    refine R_aload_n (n := 202) dX8_readText_201 rfl rfl ?_
                    refine ge_X8_72 (n := 205) dX8_readText_202 rfl (by first | exact r2 | (rw [sti_1_pf _ _ _ _ _ _ (by omega)]; exact r2) | (rw [sti_1_pf _ _ _ _ _ _ (by omega), sti_1_pf _ _ _ _ _ _ (by omega)]; exact r2) | (rw [sti_1_pf _ _ _ _ _ _ (by omega), sti_1_pf _ _ _ _ _ _ (by omega), sti_1_pf _ _ _ _ _ _ (by omega)]; exact r2) | (rw [sti_1_pf _ _ _ _ _ _ (by omega), sti_1_pf _ _ _ _ _ _ (by omega), sti_1_pf _ _ _ _ _ _ (by omega), sti_1_pf _ _ _ _ _ _ (by omega)]; exact r2) | (rw [sti_1_pf _ _ _ _ _ _ (by omega), sti_1_pf _ _ _ _ _ _ (by omega), sti_1_pf _ _ _ _ _ _ (by omega), sti_1_pf _ _ _ _ _ _ (by omega), sti_1_pf _ _ _ _ _ _ (by omega)]; exact r2)) ?_
                    refine R_imul_n (n := 206) dX8_readText_205 rfl ?_
                    refine R_iconst (v := nI 2) (n := 207) dX8_readText_206 rfl rfl ?_
                    refine R_iadd_n (n := 208) dX8_readText_207 rfl ?_
                    refine R_aload_n (n := 209) dX8_readText_208 rfl rfl ?_
                    refine R_iconst (v := nI 0) (n := 210) dX8_readText_209 rfl rfl ?_
                    refine R_bipush (v := nI 9) (n := 212) dX8_readText_210 rfl rfl ?_
                    refine iv_X8_75 (n := 215) (ct_X8_figure_dead (q := p + 1) (lo := 0) (hi := 9) (by rw [sti_1_pf _ _ _ _ _ _ (by omega), sti_1_eq]) (by omega) (by omega)) (by decide) dX8_readText_212 rfl (Nat.le_of_ble_eq_true rfl) (fun r μ' hq => ?_)
                    obtain ⟨rfl, rfl⟩ := hq
                    refine R_iast (n := 216) sh_130 (rfl) (by omega) dX8_readText_215 rfl ?_
                    refine R_aload_n (n := 217) dX8_readText_216 rfl rfl ?_
                    refine R_dup (n := 218) dX8_readText_217 rfl rfl ?_
                    refine ge_X8_72 (n := 221) dX8_readText_218 rfl (by first | exact r2 | (rw [sti_1_pf _ _ _ _ _ _ (by omega)]; exact r2) | (rw [sti_1_pf _ _ _ _ _ _ (by omega), sti_1_pf _ _ _ _ _ _ (by omega)]; exact r2) | (rw [sti_1_pf _ _ _ _ _ _ (by omega), sti_1_pf _ _ _ _ _ _ (by omega), sti_1_pf _ _ _ _ _ _ (by omega)]; exact r2) | (rw [sti_1_pf _ _ _ _ _ _ (by omega), sti_1_pf _ _ _ _ _ _ (by omega), sti_1_pf _ _ _ _ _ _ (by omega), sti_1_pf _ _ _ _ _ _ (by omega)]; exact r2) | (rw [sti_1_pf _ _ _ _ _ _ (by omega), sti_1_pf _ _ _ _ _ _ (by omega), sti_1_pf _ _ _ _ _ _ (by omega), sti_1_pf _ _ _ _ _ _ (by omega), sti_1_pf _ _ _ _ _ _ (by omega)]; exact r2)) ?_
                    refine R_iconst (v := nI 1) (n := 222) dX8_readText_221 rfl rfl ?_
                    refine R_iadd_n (n := 223) dX8_readText_222 rfl ?_
                    refine pf_X8_72 (n := 226) dX8_readText_223 rfl ?_
                    refine R_goto (tgt := 46) dX8_readText_226 rfl ?_
                    refine exitF (p + 1) _ (by omega) ?_ (((((((d1.sti (by omega)).sti (by omega)).sti (by omega)).sti (by omega)).sti (by omega)).sti (by omega)).sti (by omega)) (by rw [← c4])
                    rw [sti_1_pf _ _ _ _ _ _ (by omega), sti_1_pf _ _ _ _ _ _ (by omega), sti_1_eq]
                · rw [if_neg (fun z => hk z.2)] at c4
                  refine R_icmp_ge_t (tgt := 229) dX8_readText_146 rfl (by rw [nI_leI (by omega) (by omega)]; omega) ?_
                  refine R_aload_n (n := 230) dX8_readText_229 rfl rfl ?_
                  refine R_aload_n (n := 231) dX8_readText_230 rfl rfl ?_
                  refine ge_X8_66 (n := 234) dX8_readText_231 rfl (c8) ?_
                  refine pf_X8_63 (n := 237) dX8_readText_234 rfl ?_
                  refine R_goto (tgt := 46) dX8_readText_237 rfl ?_
                  exact exitF p _ (by omega) (by rw [sti_1_eq]) (c10.sti (by omega)) (by rw [← c4])
              · rw [if_neg (fun z => hB z.1)] at c4
                refine R_icmp_ne_t (tgt := 229) dX8_readText_137 rfl (by rw [nI_eq (by omega) (by omega)]; omega) ?_
                refine R_aload_n (n := 230) dX8_readText_229 rfl rfl ?_
                refine R_aload_n (n := 231) dX8_readText_230 rfl rfl ?_
                refine ge_X8_66 (n := 234) dX8_readText_231 rfl (c8) ?_
                refine pf_X8_63 (n := 237) dX8_readText_234 rfl ?_
                refine R_goto (tgt := 46) dX8_readText_237 rfl ?_
                exact exitF p _ (by omega) (by rw [sti_1_eq]) (c10.sti (by omega)) (by rw [← c4])
          · rw [if_neg hlt] at c4
            refine R_aload_n (n := 47) dX8_readText_46 rfl rfl ?_
            refine ge_X8_63 (n := 50) dX8_readText_47 rfl (c9) ?_
            refine R_bipush (v := -9) (n := 52) dX8_readText_50 rfl rfl ?_
            refine R_icmp_ne_f (n := 55) dX8_readText_52 rfl rfl (rfl) ?_
            refine R_aload_n (n := 56) dX8_readText_55 rfl rfl ?_
            refine ge_X8_66 (n := 59) dX8_readText_56 rfl (c8) ?_
            refine R_aload_n (n := 60) dX8_readText_59 rfl rfl ?_
            refine ge_X8_60 (n := 63) dX8_readText_60 rfl (hl) ?_
            refine R_icmp_ge_t (tgt := 240) dX8_readText_63 rfl (by rw [nI_leI (by omega) (by omega)]; omega) ?_
            refine R_aload_n (n := 241) dX8_readText_240 rfl rfl ?_
            refine ge_X8_63 (n := 244) dX8_readText_241 rfl (c9) ?_
            rw [← c4]
            refine R_iret dX8_readText_244 rfl (rfl) (⟨rfl, fun _ => c7, c10⟩)
      refine loop len 1 A0 _ (by omega) (by omega) (by omega) rfl (by decide) (by decide) ⟨?_, ?_, fun k hk => absurd hk (by show ¬ k < 0; omega), fun j hj => absurd hj (by show ¬ j < 0; omega)⟩ (by rw [sti_1_eq]) (by rw [sti_1_pf _ _ _ _ _ _ (by omega)]; exact f0) s1
      · rw [sti_1_pf _ _ _ _ _ _ (by omega)]; exact i0.1
      · rw [sti_1_pf _ _ _ _ _ _ (by omega)]; exact i0.2.1
    · rw [if_pos (Or.inr h67)]
      refine R_icmp_eq_f (n := 39) dX8_readText_36 rfl rfl (by rw [nI_eq (by omega) (by omega)]; omega) ?_
      refine R_iconst (v := nI 0) (n := 40) dX8_readText_39 rfl rfl ?_
      refine R_iret dX8_readText_40 rfl (rfl) (⟨rfl, (fun z => by cases z), s0⟩)
end M6

