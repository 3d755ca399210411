/-! THE PURE PICTURE: figures of a row, places, the greatest hour -/
def fig (row : Nat → Nat) : Nat → Int32
  | 0 => nI 0
  | k + 1 => nI 10 * fig row k + nI (row k) + nI 1
def gH (row : Nat → Nat) (hrs : Nat → Int32) : Nat → Int32
  | 0 => nI 0
  | k + 1 => mx (gH row hrs k) (hrs (row k))
def sm (f : Nat → Int32) : Nat → Int32
  | 0 => nI 0
  | k + 1 => sm f k + f k
section ST
variable {G : Gm} {l : Launch} {μ : Mem} {b : Nat}
theorem ct_X5_loadsOf (hs : StB b) {j k : Nat} (hj : j < 6) (hk : k < 5) : Ct G l 1 yX5_loadsOf cX5_loadsOf 3 (some .int) [.ref (G.2.2.1 b), .int (nI j), .int (nI k)] μ (fun r μ' => r = some (.int (μ.1 (b + 5) (k * 6 + j))) ∧ μ' = μ) := by
  refine Ct.of 0 (by decide +kernel) rfl (Nat.le_of_ble_eq_true rfl) ?_
  show V G l RX5 cX5_loadsOf 3 _ false _ _ 0 [some (.ref _), some (.int _), some (.int _)] [] _
  refine R_aload_n (n := 1) dX5_loadsOf_0 rfl rfl ?_
  refine gf_X5_24 (n := 4) hs dX5_loadsOf_1 rfl ?_
  refine R_iload_n (n := 5) dX5_loadsOf_4 rfl rfl ?_
  refine R_bipush (v := nI 6) (n := 7) dX5_loadsOf_5 rfl rfl ?_
  refine R_imul_n (n := 8) dX5_loadsOf_7 rfl ?_
  refine R_iload_n (n := 9) dX5_loadsOf_8 rfl rfl ?_
  refine R_iadd_n (n := 10) dX5_loadsOf_9 rfl ?_
  refine R_iald (n := 11) hs.2.2.2.2.2 (rfl) (by omega) dX5_loadsOf_10 rfl ?_
  refine R_iret dX5_loadsOf_11 rfl (rfl) (⟨rfl, rfl⟩)
theorem ct_X5_addLoads (hs : StB b) {j k : Nat} (hj : j < 6) (hk : k < 5) (x : Int32) : Ct G l 1 yX5_addLoads cX5_addLoads 4 none [.ref (G.2.2.1 b), .int (nI j), .int (nI k), .int x] μ (fun r μ' => r = none ∧ μ' = sti μ (b + 5) (k * 6 + j) (μ.1 (b + 5) (k * 6 + j) + x)) := by
  refine Ct.of 0 (by decide +kernel) rfl (Nat.le_of_ble_eq_true rfl) ?_
  show V G l RX5 cX5_addLoads 4 _ false none _ 0 [some (.ref _), some (.int _), some (.int _), some (.int _)] [] _
  refine R_aload_n (n := 1) dX5_addLoads_0 rfl rfl ?_
  refine gf_X5_24 (n := 4) hs dX5_addLoads_1 rfl ?_
  refine R_iload_n (n := 5) dX5_addLoads_4 rfl rfl ?_
  refine R_bipush (v := nI 6) (n := 7) dX5_addLoads_5 rfl rfl ?_
  refine R_imul_n (n := 8) dX5_addLoads_7 rfl ?_
  refine R_iload_n (n := 9) dX5_addLoads_8 rfl rfl ?_
  refine R_iadd_n (n := 10) dX5_addLoads_9 rfl ?_
  refine R_dup2 (n := 11) dX5_addLoads_10 rfl rfl rfl ?_
  refine R_iald (n := 12) hs.2.2.2.2.2 (rfl) (by omega) dX5_addLoads_11 rfl ?_
  refine R_iload_n (n := 13) dX5_addLoads_12 rfl rfl ?_
  refine R_iadd (n := 14) dX5_addLoads_13 rfl ?_
  refine R_iast (n := 15) hs.2.2.2.2.2 (rfl) (by omega) dX5_addLoads_14 rfl ?_
  refine R_ret dX5_addLoads_15 rfl (⟨rfl, rfl⟩)
theorem ct_X5_figures (hs : StB b) {z : Nat} {row : Nat → Nat} (hz6 : z ≤ 6) (hz : μ.1 b 5 = nI z) (hr : ∀ p, p < z → μ.1 (b + 1) p = nI (row p)) : Ct G l 1 yX5_figures cX5_figures 3 (some .int) [.ref (G.2.2.1 b)] μ (fun r μ' => r = some (.int (fig row z)) ∧ μ' = μ) := by
  refine Ct.of 2 (by decide +kernel) rfl (Nat.le_of_ble_eq_true rfl) ?_
  show V G l RX5 cX5_figures 3 _ false _ _ 0 [some (.ref _), none, none] [] _
  refine R_iconst (v := nI 0) (n := 1) dX5_figures_0 rfl rfl ?_
  refine R_istore_n (n := 2) dX5_figures_1 rfl (Nat.le_of_ble_eq_true rfl) (Nat.le_of_ble_eq_true rfl) ?_
  refine R_iconst (v := nI 0) (n := 3) dX5_figures_2 rfl rfl ?_
  refine R_istore_n (n := 4) dX5_figures_3 rfl (Nat.le_of_ble_eq_true rfl) (Nat.le_of_ble_eq_true rfl) ?_
  refine down (P := fun k => V G l RX5 cX5_figures 3 1 false _ _ 4 [some (.ref _), some (.int (fig row k)), some (.int (nI k))] [] _) ?_ ?_ 0 (Nat.zero_le z)
  · refine R_iload_n (n := 5) dX5_figures_4 rfl rfl ?_
    refine R_aload_n (n := 6) dX5_figures_5 rfl rfl ?_
    refine ge_X5_33 (n := 9) hs dX5_figures_6 rfl (hz) ?_
    refine R_icmp_ge_t (tgt := 32) dX5_figures_9 rfl (by rw [nI_leI (by omega) (by omega)]; omega) ?_
    refine R_iload_n (n := 33) dX5_figures_32 rfl rfl ?_
    refine R_iret dX5_figures_33 rfl (rfl) (⟨rfl, rfl⟩)
  · intro k hk ih
    refine R_iload_n (n := 5) dX5_figures_4 rfl rfl ?_
    refine R_aload_n (n := 6) dX5_figures_5 rfl rfl ?_
    refine ge_X5_33 (n := 9) hs dX5_figures_6 rfl (hz) ?_
    refine R_icmp_ge_f (n := 12) dX5_figures_9 rfl rfl (by rw [nI_leI (by omega) (by omega)]; omega) ?_
    refine R_bipush (v := nI 10) (n := 14) dX5_figures_12 rfl rfl ?_
    refine R_iload_n (n := 15) dX5_figures_14 rfl rfl ?_
    refine R_imul (n := 16) dX5_figures_15 rfl ?_
    refine R_aload_n (n := 17) dX5_figures_16 rfl rfl ?_
    refine gf_X5_9 (n := 20) hs dX5_figures_17 rfl ?_
    refine R_iload_n (n := 21) dX5_figures_20 rfl rfl ?_
    refine R_iald_e (n := 22) hs.2.1 (rfl) (by omega) dX5_figures_21 rfl (hr _ (by omega)) ?_
    refine R_iadd (n := 23) dX5_figures_22 rfl ?_
    refine R_iconst (v := nI 1) (n := 24) dX5_figures_23 rfl rfl ?_
    refine R_iadd (n := 25) dX5_figures_24 rfl ?_
    refine R_istore_n (n := 26) dX5_figures_25 rfl (Nat.le_of_ble_eq_true rfl) (Nat.le_of_ble_eq_true rfl) ?_
    refine R_iinc (n := 29) dX5_figures_26 rfl rfl (nI_1 _) (Nat.le_of_ble_eq_true rfl) ?_
    refine R_goto (tgt := 4) dX5_figures_29 rfl ?_
    exact ih
theorem ct_X5_greatestHour (hs : StB b) {z : Nat} {row : Nat → Nat} (hz6 : z ≤ 6) (hz : μ.1 b 5 = nI z) (hr : ∀ p, p < z → μ.1 (b + 1) p = nI (row p)) (hrow : ∀ p, p < z → row p < 6) : Ct G l 1 yX5_greatestHour cX5_greatestHour 3 (some .int) [.ref (G.2.2.1 b)] μ (fun r μ' => r = some (.int (gH row (μ.1 (b + 2)) z)) ∧ μ' = μ) := by
  refine Ct.of 2 (by decide +kernel) rfl (Nat.le_of_ble_eq_true rfl) ?_
  show V G l RX5 cX5_greatestHour 3 _ false _ _ 0 [some (.ref _), none, none] [] _
  refine R_iconst (v := nI 0) (n := 1) dX5_greatestHour_0 rfl rfl ?_
  refine R_istore_n (n := 2) dX5_greatestHour_1 rfl (Nat.le_of_ble_eq_true rfl) (Nat.le_of_ble_eq_true rfl) ?_
  refine R_iconst (v := nI 0) (n := 3) dX5_greatestHour_2 rfl rfl ?_
  refine R_istore_n (n := 4) dX5_greatestHour_3 rfl (Nat.le_of_ble_eq_true rfl) (Nat.le_of_ble_eq_true rfl) ?_
  refine down (P := fun k => V G l RX5 cX5_greatestHour 3 1 false _ _ 4 [some (.ref _), some (.int (gH row (μ.1 (b + 2)) k)), some (.int (nI k))] [] _) ?_ ?_ 0 (Nat.zero_le z)
  · refine R_iload_n (n := 5) dX5_greatestHour_4 rfl rfl ?_
    refine R_aload_n (n := 6) dX5_greatestHour_5 rfl rfl ?_
    refine ge_X5_33 (n := 9) hs dX5_greatestHour_6 rfl (hz) ?_
    refine R_icmp_ge_t (tgt := 34) dX5_greatestHour_9 rfl (by rw [nI_leI (by omega) (by omega)]; omega) ?_
    refine R_iload_n (n := 35) dX5_greatestHour_34 rfl rfl ?_
    refine R_iret dX5_greatestHour_35 rfl (rfl) (⟨rfl, rfl⟩)
  · intro k hk ih
    have hq := hrow k hk
    refine R_iload_n (n := 5) dX5_greatestHour_4 rfl rfl ?_
    refine R_aload_n (n := 6) dX5_greatestHour_5 rfl rfl ?_
    refine ge_X5_33 (n := 9) hs dX5_greatestHour_6 rfl (hz) ?_
    refine R_icmp_ge_f (n := 12) dX5_greatestHour_9 rfl rfl (by rw [nI_leI (by omega) (by omega)]; omega) ?_
    refine R_iload_n (n := 13) dX5_greatestHour_12 rfl rfl ?_
    refine R_aload_n (n := 14) dX5_greatestHour_13 rfl rfl ?_
    refine gf_X5_15 (n := 17) hs dX5_greatestHour_14 rfl ?_
    refine R_aload_n (n := 18) dX5_greatestHour_17 rfl rfl ?_
    refine gf_X5_9 (n := 21) hs dX5_greatestHour_18 rfl ?_
    refine R_iload_n (n := 22) dX5_greatestHour_21 rfl rfl ?_
    refine R_iald_e (n := 23) hs.2.1 (rfl) (by omega) dX5_greatestHour_22 rfl (hr _ (by omega)) ?_
    refine R_iald (n := 24) hs.2.2.1 (rfl) (by omega) dX5_greatestHour_23 rfl ?_
    refine R_mx (n := 27) tM_RX5_43 (by decide) (Nat.le_of_ble_eq_true rfl) dX5_greatestHour_24 rfl ?_
    refine R_istore_n (n := 28) dX5_greatestHour_27 rfl (Nat.le_of_ble_eq_true rfl) (Nat.le_of_ble_eq_true rfl) ?_
    refine R_iinc (n := 31) dX5_greatestHour_28 rfl rfl (nI_1 _) (Nat.le_of_ble_eq_true rfl) ?_
    refine R_goto (tgt := 4) dX5_greatestHour_31 rfl ?_
    exact ih
theorem ct_X5_loadsAt (hs : StB b) {k : Nat} (hk : k < 5) : Ct G l 2 yX5_loadsAt cX5_loadsAt 4 (some .int) [.ref (G.2.2.1 b), .int (nI k)] μ (fun r μ' => r = some (.int (sm (fun j => μ.1 (b + 5) (k * 6 + j)) 6)) ∧ μ' = μ) := by
  refine Ct.of 2 (by decide +kernel) rfl (Nat.le_of_ble_eq_true rfl) ?_
  show V G l RX5 cX5_loadsAt 4 _ false _ _ 0 [some (.ref _), some (.int _), none, none] [] _
  refine R_iconst (v := nI 0) (n := 1) dX5_loadsAt_0 rfl rfl ?_
  refine R_istore_n (n := 2) dX5_loadsAt_1 rfl (Nat.le_of_ble_eq_true rfl) (Nat.le_of_ble_eq_true rfl) ?_
  refine R_iconst (v := nI 0) (n := 3) dX5_loadsAt_2 rfl rfl ?_
  refine R_istore_n (n := 4) dX5_loadsAt_3 rfl (Nat.le_of_ble_eq_true rfl) (Nat.le_of_ble_eq_true rfl) ?_
  refine down (z := 6) (P := fun j => V G l RX5 cX5_loadsAt 4 2 false _ _ 4 [some (.ref _), some (.int (nI k)), some (.int (sm (fun j => μ.1 (b + 5) (k * 6 + j)) j)), some (.int (nI j))] [] _) ?_ ?_ 0 (Nat.zero_le _)
  · refine R_iload_n (n := 5) dX5_loadsAt_4 rfl rfl ?_
    refine R_bipush (v := nI 6) (n := 7) dX5_loadsAt_5 rfl rfl ?_
    refine R_icmp_ge_t (tgt := 25) dX5_loadsAt_7 rfl (by rw [nI_leI (by omega) (by omega)]; omega) ?_
    refine R_iload_n (n := 26) dX5_loadsAt_25 rfl rfl ?_
    refine R_iret dX5_loadsAt_26 rfl (rfl) (⟨rfl, rfl⟩)
  · intro j hj ih
    refine R_iload_n (n := 5) dX5_loadsAt_4 rfl rfl ?_
    refine R_bipush (v := nI 6) (n := 7) dX5_loadsAt_5 rfl rfl ?_
    refine R_icmp_ge_f (n := 10) dX5_loadsAt_7 rfl rfl (by rw [nI_leI (by omega) (by omega)]; omega) ?_
    refine R_iload_n (n := 11) dX5_loadsAt_10 rfl rfl ?_
    refine R_aload_n (n := 12) dX5_loadsAt_11 rfl rfl ?_
    refine R_iload_n (n := 13) dX5_loadsAt_12 rfl rfl ?_
    refine R_iload_n (n := 14) dX5_loadsAt_13 rfl rfl ?_
    refine iv_X5_49 (n := 17) (ct_X5_loadsOf hs hj hk) hs (by decide) dX5_loadsAt_14 rfl (Nat.le_of_ble_eq_true rfl) (fun r μ' hq => ?_)
    obtain ⟨rfl, hq⟩ := hq
    have hq := hq.symm
    subst hq
    refine R_iadd (n := 18) dX5_loadsAt_17 rfl ?_
    refine R_istore_n (n := 19) dX5_loadsAt_18 rfl (Nat.le_of_ble_eq_true rfl) (Nat.le_of_ble_eq_true rfl) ?_
    refine R_iinc (n := 22) dX5_loadsAt_19 rfl rfl (nI_1 _) (Nat.le_of_ble_eq_true rfl) ?_
    refine R_goto (tgt := 4) dX5_loadsAt_22 rfl ?_
    exact ih
theorem ct_X5_clearHours (hs : StB b) : Ct G l 1 yX5_clearHours cX5_clearHours 2 none [.ref (G.2.2.1 b)] μ (fun r μ' => r = none ∧ (∀ k, k < 6 → μ'.1 (b + 2) k = nI 0) ∧ Sme (fun i _ => i = b + 2) μ μ') := by
  refine Ct.of 1 (by decide +kernel) rfl (Nat.le_of_ble_eq_true rfl) ?_
  show V G l RX5 cX5_clearHours 2 _ false none _ 0 [some (.ref _), none] [] _
  refine R_iconst (v := nI 0) (n := 1) dX5_clearHours_0 rfl rfl ?_
  refine R_istore_n (n := 2) dX5_clearHours_1 rfl (Nat.le_of_ble_eq_true rfl) (Nat.le_of_ble_eq_true rfl) ?_
  refine down (z := 6) (P := fun j => ∀ μ1 : Mem, (∀ k, k < j → μ1.1 (b + 2) k = nI 0) → Sme (fun i _ => i = b + 2) μ μ1 → V G l RX5 cX5_clearHours 2 1 false _ _ 2 [some (.ref _), some (.int (nI j))] [] μ1) ?_ ?_ 0 (Nat.zero_le _) μ (fun k h => absurd h (by omega)) (Sme.rf _ _)
  · intro μ1 h1 h2
    refine R_iload_n (n := 3) dX5_clearHours_2 rfl rfl ?_
    refine R_bipush (v := nI 6) (n := 5) dX5_clearHours_3 rfl rfl ?_
    refine R_icmp_ge_t (tgt := 21) dX5_clearHours_5 rfl (by rw [nI_leI (by omega) (by omega)]; omega) ?_
    refine R_ret dX5_clearHours_21 rfl (⟨rfl, h1, h2⟩)
  · intro j hj ih μ1 h1 h2
    refine R_iload_n (n := 3) dX5_clearHours_2 rfl rfl ?_
    refine R_bipush (v := nI 6) (n := 5) dX5_clearHours_3 rfl rfl ?_
    refine R_icmp_ge_f (n := 8) dX5_clearHours_5 rfl rfl (by rw [nI_leI (by omega) (by omega)]; omega) ?_
    refine R_aload_n (n := 9) dX5_clearHours_8 rfl rfl ?_
    refine gf_X5_15 (n := 12) hs dX5_clearHours_9 rfl ?_
    refine R_iload_n (n := 13) dX5_clearHours_12 rfl rfl ?_
    refine R_iconst (v := nI 0) (n := 14) dX5_clearHours_13 rfl rfl ?_
    refine R_iast (n := 15) hs.2.2.1 (rfl) (by omega) dX5_clearHours_14 rfl ?_
    refine R_iinc (n := 18) dX5_clearHours_15 rfl rfl (nI_1 _) (Nat.le_of_ble_eq_true rfl) ?_
    refine R_goto (tgt := 2) dX5_clearHours_18 rfl ?_
    refine ih _ (fun k hk => ?_) (h2.sti rfl)
    rw [sti_1]
    by_cases e : k = j
    · rw [if_pos ⟨rfl, e⟩]
    · rw [if_neg (fun z => e z.2)]; exact h1 k (by omega)
theorem ct_X5_clearAll (hs : StB b) : Ct G l 2 yX5_clearAll cX5_clearAll 2 none [.ref (G.2.2.1 b)] μ (fun r μ' => r = none ∧ ((∀ k, k < 6 → μ'.1 (b + 2) k = nI 0) ∧ (∀ k, k < 30 → μ'.1 (b + 5) k = nI 0) ∧ μ'.1 b 5 = nI 0 ∧ μ'.1 b 6 = nI 0) ∧ Sme (fun i j => i = b + 2 ∨ i = b + 5 ∨ (i = b ∧ (j = 5 ∨ j = 6))) μ μ') := by
  refine Ct.of 1 (by decide +kernel) rfl (Nat.le_of_ble_eq_true rfl) ?_
  show V G l RX5 cX5_clearAll 2 _ false none _ 0 [some (.ref _), none] [] _
  refine R_iconst (v := nI 0) (n := 1) dX5_clearAll_0 rfl rfl ?_
  refine R_istore_n (n := 2) dX5_clearAll_1 rfl (Nat.le_of_ble_eq_true rfl) (Nat.le_of_ble_eq_true rfl) ?_
  refine down (z := 30) (P := fun j => ∀ μ1 : Mem, (∀ k, k < j → μ1.1 (b + 5) k = nI 0) → Sme (fun i j => i = b + 2 ∨ i = b + 5 ∨ (i = b ∧ (j = 5 ∨ j = 6))) μ μ1 → V G l RX5 cX5_clearAll 2 2 false _ _ 2 [some (.ref _), some (.int (nI j))] [] μ1) ?_ ?_ 0 (Nat.zero_le _) μ (fun k h => absurd h (by omega)) (Sme.rf _ _)
  · intro μ1 h1 h2
    refine R_iload_n (n := 3) dX5_clearAll_2 rfl rfl ?_
    refine R_bipush (v := nI 30) (n := 5) dX5_clearAll_3 rfl rfl ?_
    refine R_icmp_ge_t (tgt := 21) dX5_clearAll_5 rfl (by rw [nI_leI (by omega) (by omega)]; omega) ?_
    refine R_aload_n (n := 22) dX5_clearAll_21 rfl rfl ?_
    refine iv_X5_40 (n := 25) (ct_X5_clearHours hs) hs (by decide) dX5_clearAll_22 rfl (Nat.le_of_ble_eq_true rfl) (fun r μ' hq => ?_)
    obtain ⟨rfl, h3, h4⟩ := hq
    refine R_aload_n (n := 26) dX5_clearAll_25 rfl rfl ?_
    refine R_iconst (v := nI 0) (n := 27) dX5_clearAll_26 rfl rfl ?_
    refine pf_X5_33 (n := 30) hs dX5_clearAll_27 rfl ?_
    refine R_aload_n (n := 31) dX5_clearAll_30 rfl rfl ?_
    refine R_iconst (v := nI 0) (n := 32) dX5_clearAll_31 rfl rfl ?_
    refine pf_X5_37 (n := 35) hs dX5_clearAll_32 rfl ?_
    have h5 : Sme (fun i j => i = b + 2 ∨ i = b + 5 ∨ (i = b ∧ (j = 5 ∨ j = 6))) μ μ' := h2.tr (h4.mono (fun i j h => Or.inl h))
    refine R_ret dX5_clearAll_35 rfl (⟨rfl, ⟨fun k hk => ?_, fun k hk => ?_, ?_, ?_⟩, (h5.sti (Or.inr (Or.inr ⟨rfl, Or.inl rfl⟩))).sti (Or.inr (Or.inr ⟨rfl, Or.inr rfl⟩))⟩)
    · rw [sti_1, if_neg (by omega), sti_1, if_neg (by omega)]; exact h3 k hk
    · rw [sti_1, if_neg (by omega), sti_1, if_neg (by omega), h4.1 _ _ (by omega)]; exact h1 k hk
    · rw [sti_1, if_neg (by omega), sti_1_eq]
    · rw [sti_1_eq]
  · intro j hj ih μ1 h1 h2
    refine R_iload_n (n := 3) dX5_clearAll_2 rfl rfl ?_
    refine R_bipush (v := nI 30) (n := 5) dX5_clearAll_3 rfl rfl ?_
    refine R_icmp_ge_f (n := 8) dX5_clearAll_5 rfl rfl (by rw [nI_leI (by omega) (by omega)]; omega) ?_
    refine R_aload_n (n := 9) dX5_clearAll_8 rfl rfl ?_
    refine gf_X5_24 (n := 12) hs dX5_clearAll_9 rfl ?_
    refine R_iload_n (n := 13) dX5_clearAll_12 rfl rfl ?_
    refine R_iconst (v := nI 0) (n := 14) dX5_clearAll_13 rfl rfl ?_
    refine R_iast (n := 15) hs.2.2.2.2.2 (rfl) (by omega) dX5_clearAll_14 rfl ?_
    refine R_iinc (n := 18) dX5_clearAll_15 rfl rfl (nI_1 _) (Nat.le_of_ble_eq_true rfl) ?_
    refine R_goto (tgt := 2) dX5_clearAll_18 rfl ?_
    refine ih _ (fun k hk => ?_) (h2.sti (Or.inr (Or.inl rfl)))
    rw [sti_1]
    by_cases e : k = j
    · rw [if_pos ⟨rfl, e⟩]
    · rw [if_neg (fun z => e z.2)]; exact h1 k (by omega)
theorem ct_X5_placeOf (hs : StB b) {z p v : Nat} {row : Nat → Nat} (hz6 : z ≤ 6) (hz : μ.1 b 5 = nI z) (hr : ∀ p, p < z → μ.1 (b + 1) p = nI (row p)) (hrow : ∀ p, p < z → row p < 6) (hv : v < 6) (hp : p < z) (hpv : row p = v) (hun : ∀ q, q < p → row q ≠ v) : Ct G l 1 yX5_placeOf cX5_placeOf 3 (some .int) [.ref (G.2.2.1 b), .int (nI v)] μ (fun r μ' => r = some (.int (nI p)) ∧ μ' = μ) := by
  refine Ct.of 1 (by decide +kernel) rfl (Nat.le_of_ble_eq_true rfl) ?_
  show V G l RX5 cX5_placeOf 3 _ false _ _ 0 [some (.ref _), some (.int _), none] [] _
  refine R_iconst (v := nI 0) (n := 1) dX5_placeOf_0 rfl rfl ?_
  refine R_istore_n (n := 2) dX5_placeOf_1 rfl (Nat.le_of_ble_eq_true rfl) (Nat.le_of_ble_eq_true rfl) ?_
  refine down (z := p) (P := fun k => V G l RX5 cX5_placeOf 3 1 false _ _ 2 [some (.ref _), some (.int (nI v)), some (.int (nI k))] [] _) ?_ ?_ 0 (Nat.zero_le _)
  · have hq := hrow p hp
    refine R_iload_n (n := 3) dX5_placeOf_2 rfl rfl ?_
    refine R_aload_n (n := 4) dX5_placeOf_3 rfl rfl ?_
    refine ge_X5_33 (n := 7) hs dX5_placeOf_4 rfl (hz) ?_
    refine R_icmp_ge_f (n := 10) dX5_placeOf_7 rfl rfl (by rw [nI_leI (by omega) (by omega)]; omega) ?_
    refine R_aload_n (n := 11) dX5_placeOf_10 rfl rfl ?_
    refine gf_X5_9 (n := 14) hs dX5_placeOf_11 rfl ?_
    refine R_iload_n (n := 15) dX5_placeOf_14 rfl rfl ?_
    refine R_iald_e (n := 16) hs.2.1 (rfl) (by omega) dX5_placeOf_15 rfl (hr _ (by omega)) ?_
    refine R_iload_n (n := 17) dX5_placeOf_16 rfl rfl ?_
    refine R_icmp_ne_f (n := 20) dX5_placeOf_17 rfl rfl (by rw [hpv]) ?_
    refine R_iload_n (n := 21) dX5_placeOf_20 rfl rfl ?_
    refine R_iret dX5_placeOf_21 rfl (rfl) (⟨rfl, rfl⟩)
  · intro k hk ih
    have hq := hrow k (by omega)
    have hu := hun k hk
    refine R_iload_n (n := 3) dX5_placeOf_2 rfl rfl ?_
    refine R_aload_n (n := 4) dX5_placeOf_3 rfl rfl ?_
    refine ge_X5_33 (n := 7) hs dX5_placeOf_4 rfl (hz) ?_
    refine R_icmp_ge_f (n := 10) dX5_placeOf_7 rfl rfl (by rw [nI_leI (by omega) (by omega)]; omega) ?_
    refine R_aload_n (n := 11) dX5_placeOf_10 rfl rfl ?_
    refine gf_X5_9 (n := 14) hs dX5_placeOf_11 rfl ?_
    refine R_iload_n (n := 15) dX5_placeOf_14 rfl rfl ?_
    refine R_iald_e (n := 16) hs.2.1 (rfl) (by omega) dX5_placeOf_15 rfl (hr _ (by omega)) ?_
    refine R_iload_n (n := 17) dX5_placeOf_16 rfl rfl ?_
    refine R_icmp_ne_t (tgt := 22) dX5_placeOf_17 rfl (by rw [nI_eq (by omega) (by omega)]; omega) ?_
    refine R_iinc (n := 25) dX5_placeOf_22 rfl rfl (nI_1 _) (Nat.le_of_ble_eq_true rfl) ?_
    refine R_goto (tgt := 2) dX5_placeOf_25 rfl ?_
    exact ih
def bi (c : Bool) : Int32 := if c then nI 1 else nI 0
theorem nar_bi (b : Bool) : narrow .boolean (.int (bi b)) = .int (bi b) := by cases b <;> rfl
theorem ct_X5_isAt (hs : StB b) {z p : Nat} {w : Int32} {row : Nat → Nat} (hz6 : z ≤ 6) (hz : μ.1 b 5 = nI z) (hr : ∀ p, p < z → μ.1 (b + 1) p = nI (row p)) (hp : p < 6) : Ct G l 1 yX5_isAt cX5_isAt 3 (some .boolean) [.ref (G.2.2.1 b), .int (nI p), .int w] μ (fun r μ' => r = some (.int (bi (decide (p < z ∧ nI (row p) = w)))) ∧ μ' = μ) := by
  refine Ct.of 0 (by decide +kernel) rfl (Nat.le_of_ble_eq_true rfl) ?_
  show V G l RX5 cX5_isAt 3 _ false _ _ 0 [some (.ref _), some (.int _), some (.int _)] [] _
  refine R_iload_n (n := 1) dX5_isAt_0 rfl rfl ?_
  refine R_if_lt_f (n := 4) dX5_isAt_1 rfl rfl (nI_pos (by omega)) ?_
  refine R_iload_n (n := 5) dX5_isAt_4 rfl rfl ?_
  refine R_aload_n (n := 6) dX5_isAt_5 rfl rfl ?_
  refine ge_X5_33 (n := 9) hs dX5_isAt_6 rfl (hz) ?_
  refine R_icmp_ge (n := 12) (tgt := 26) dX5_isAt_9 rfl rfl (fun h => ?_) (fun h => ?_)
  · rw [nI_leI (by omega) (by omega)] at h
    refine R_iconst (v := nI 0) (n := 27) dX5_isAt_26 rfl rfl ?_
    refine R_iret dX5_isAt_27 rfl (by first | rfl | exact nar_bi _) (⟨by rw [decide_eq_false (by omega)]; rfl, rfl⟩)
  · rw [nI_leI (by omega) (by omega)] at h
    refine R_aload_n (n := 13) dX5_isAt_12 rfl rfl ?_
    refine gf_X5_9 (n := 16) hs dX5_isAt_13 rfl ?_
    refine R_iload_n (n := 17) dX5_isAt_16 rfl rfl ?_
    refine R_iald_e (n := 18) hs.2.1 (rfl) (by omega) dX5_isAt_17 rfl (hr _ (by omega)) ?_
    refine R_iload_n (n := 19) dX5_isAt_18 rfl rfl ?_
    refine R_icmp_ne (n := 22) (tgt := 26) dX5_isAt_19 rfl rfl (fun h2 => ?_) (fun h2 => ?_)
    · refine R_iconst (v := nI 0) (n := 27) dX5_isAt_26 rfl rfl ?_
      refine R_iret dX5_isAt_27 rfl (by first | rfl | exact nar_bi _) (⟨by rw [decide_eq_false (fun q => h2 q.2)]; rfl, rfl⟩)
    · refine R_iconst (v := nI 1) (n := 23) dX5_isAt_22 rfl rfl ?_
      refine R_goto (tgt := 27) dX5_isAt_23 rfl ?_
      refine R_iret dX5_isAt_27 rfl (by first | rfl | exact nar_bi _) (⟨by rw [decide_eq_true ⟨by omega, h2⟩]; rfl, rfl⟩)
theorem ct_X5_turn (hs : StB b) {z p : Nat} (hz6 : z ≤ 6) (hz : μ.1 b 5 = nI z) (hp : p + 1 < z) : Ct G l 1 yX5_turn cX5_turn 3 none [.ref (G.2.2.1 b), .int (nI p)] μ (fun r μ' => r = none ∧ μ' = sti (sti μ (b + 1) p (μ.1 (b + 1) (p + 1))) (b + 1) (p + 1) (μ.1 (b + 1) p)) := by
  refine Ct.of 1 (by decide +kernel) rfl (Nat.le_of_ble_eq_true rfl) ?_
  show V G l RX5 cX5_turn 3 _ false none _ 0 [some (.ref _), some (.int _), none] [] _
  refine R_iload_n (n := 1) dX5_turn_0 rfl rfl ?_
  refine R_if_lt_f (n := 4) dX5_turn_1 rfl rfl (nI_pos (by omega)) ?_
  refine R_iload_n (n := 5) dX5_turn_4 rfl rfl ?_
  refine R_iconst (v := nI 1) (n := 6) dX5_turn_5 rfl rfl ?_
  refine R_iadd_n (n := 7) dX5_turn_6 rfl ?_
  refine R_aload_n (n := 8) dX5_turn_7 rfl rfl ?_
  refine ge_X5_33 (n := 11) hs dX5_turn_8 rfl (hz) ?_
  refine R_icmp_ge_f (n := 14) dX5_turn_11 rfl rfl (by rw [nI_leI (by omega) (by omega)]; omega) ?_
  refine R_aload_n (n := 15) dX5_turn_14 rfl rfl ?_
  refine gf_X5_9 (n := 18) hs dX5_turn_15 rfl ?_
  refine R_iload_n (n := 19) dX5_turn_18 rfl rfl ?_
  refine R_iald (n := 20) hs.2.1 (rfl) (by omega) dX5_turn_19 rfl ?_
  refine R_istore_n (n := 21) dX5_turn_20 rfl (Nat.le_of_ble_eq_true rfl) (Nat.le_of_ble_eq_true rfl) ?_
  refine R_aload_n (n := 22) dX5_turn_21 rfl rfl ?_
  refine gf_X5_9 (n := 25) hs dX5_turn_22 rfl ?_
  refine R_iload_n (n := 26) dX5_turn_25 rfl rfl ?_
  refine R_aload_n (n := 27) dX5_turn_26 rfl rfl ?_
  refine gf_X5_9 (n := 30) hs dX5_turn_27 rfl ?_
  refine R_iload_n (n := 31) dX5_turn_30 rfl rfl ?_
  refine R_iconst (v := nI 1) (n := 32) dX5_turn_31 rfl rfl ?_
  refine R_iadd_n (n := 33) dX5_turn_32 rfl ?_
  refine R_iald (n := 34) hs.2.1 (rfl) (by omega) dX5_turn_33 rfl ?_
  refine R_iast (n := 35) hs.2.1 (rfl) (by omega) dX5_turn_34 rfl ?_
  refine R_aload_n (n := 36) dX5_turn_35 rfl rfl ?_
  refine gf_X5_9 (n := 39) hs dX5_turn_36 rfl ?_
  refine R_iload_n (n := 40) dX5_turn_39 rfl rfl ?_
  refine R_iconst (v := nI 1) (n := 41) dX5_turn_40 rfl rfl ?_
  refine R_iadd_n (n := 42) dX5_turn_41 rfl ?_
  refine R_iload_n (n := 43) dX5_turn_42 rfl rfl ?_
  refine R_iast (n := 44) hs.2.1 (rfl) (by omega) dX5_turn_43 rfl ?_
  refine R_ret dX5_turn_44 rfl (⟨rfl, rfl⟩)
theorem sta_1_ne (μ : Mem) {i : Nat} (f : Nat → Int32) {a : Nat} (b : Nat) (h : a ≠ i) : (sta μ i f).1 a b = μ.1 a b := by rw [sta_1, if_neg h]
theorem sta_1_eq (μ : Mem) (i : Nat) (f : Nat → Int32) (b : Nat) : (sta μ i f).1 i b = f b := by rw [sta_1, if_pos rfl]
theorem sti_1_pf (μ : Mem) (i k : Nat) (x : Int32) (a b : Nat) (h : ¬ (a = i ∧ b = k)) : (sti μ i k x).1 a b = μ.1 a b := by rw [sti_1, if_neg h]
theorem cpy0 {f g : Nat → Int32} {n k : Nat} (h : k < n) : va_cpy f g 0 0 n k = f k := by
  unfold va_cpy
  rw [if_pos ⟨Nat.zero_le _, by omega⟩, Nat.zero_add, Nat.sub_zero]
/-- all of the State at a, at b too -/
def Cpy (μ μ' : Mem) (a b : Nat) : Prop := (∀ k, k < 6 → μ'.1 (b + 1) k = μ.1 (a + 1) k) ∧ (∀ k, k < 6 → μ'.1 (b + 2) k = μ.1 (a + 2) k) ∧ (∀ k, k < 6 → μ'.1 (b + 3) k = μ.1 (a + 3) k) ∧ (∀ k, k < 5 → μ'.1 (b + 4) k = μ.1 (a + 4) k) ∧ (∀ k, k < 30 → μ'.1 (b + 5) k = μ.1 (a + 5) k) ∧ μ'.1 b 5 = μ.1 a 5 ∧ μ'.1 b 6 = μ.1 a 6
theorem ct_X5_copyFrom {a : Nat} (hs : StB b) (ha : StB a) (hd : a + 5 < b ∨ b + 5 < a) : Ct G l 1 yX5_copyFrom cX5_copyFrom 2 none [.ref (G.2.2.1 b), .ref (G.2.2.1 a)] μ (fun r μ' => r = none ∧ Cpy μ μ' a b ∧ Sme (fun i _ => b ≤ i ∧ i ≤ b + 5) μ μ') := by
  refine Ct.of 0 (by decide +kernel) rfl (Nat.le_of_ble_eq_true rfl) ?_
  show V G l RX5 cX5_copyFrom 2 _ false none _ 0 [some (.ref _), some (.ref _)] [] _
  refine R_aload_n (n := 1) dX5_copyFrom_0 rfl rfl ?_
  refine gf_X5_9 (n := 4) ha dX5_copyFrom_1 rfl ?_
  refine R_iconst (v := nI 0) (n := 5) dX5_copyFrom_4 rfl rfl ?_
  refine R_aload_n (n := 6) dX5_copyFrom_5 rfl rfl ?_
  refine gf_X5_9 (n := 9) hs dX5_copyFrom_6 rfl ?_
  refine R_iconst (v := nI 0) (n := 10) dX5_copyFrom_9 rfl rfl ?_
  refine R_bipush (v := nI 6) (n := 12) dX5_copyFrom_10 rfl rfl ?_
  refine R_copy (n := 15) tM_RX5_27 tV_System_arraycopy tT_System_arraycopy tN_RJ10 ha.2.1 hs.2.1 rfl (by omega) (by decide) (Nat.le_of_ble_eq_true rfl) dX5_copyFrom_12 rfl ?_
  refine R_aload_n (n := 16) dX5_copyFrom_15 rfl rfl ?_
  refine gf_X5_15 (n := 19) ha dX5_copyFrom_16 rfl ?_
  refine R_iconst (v := nI 0) (n := 20) dX5_copyFrom_19 rfl rfl ?_
  refine R_aload_n (n := 21) dX5_copyFrom_20 rfl rfl ?_
  refine gf_X5_15 (n := 24) hs dX5_copyFrom_21 rfl ?_
  refine R_iconst (v := nI 0) (n := 25) dX5_copyFrom_24 rfl rfl ?_
  refine R_bipush (v := nI 6) (n := 27) dX5_copyFrom_25 rfl rfl ?_
  refine R_copy (n := 30) tM_RX5_27 tV_System_arraycopy tT_System_arraycopy tN_RJ10 ha.2.2.1 hs.2.2.1 rfl (by omega) (by decide) (Nat.le_of_ble_eq_true rfl) dX5_copyFrom_27 rfl ?_
  refine R_aload_n (n := 31) dX5_copyFrom_30 rfl rfl ?_
  refine gf_X5_18 (n := 34) ha dX5_copyFrom_31 rfl ?_
  refine R_iconst (v := nI 0) (n := 35) dX5_copyFrom_34 rfl rfl ?_
  refine R_aload_n (n := 36) dX5_copyFrom_35 rfl rfl ?_
  refine gf_X5_18 (n := 39) hs dX5_copyFrom_36 rfl ?_
  refine R_iconst (v := nI 0) (n := 40) dX5_copyFrom_39 rfl rfl ?_
  refine R_bipush (v := nI 6) (n := 42) dX5_copyFrom_40 rfl rfl ?_
  refine R_copy (n := 45) tM_RX5_27 tV_System_arraycopy tT_System_arraycopy tN_RJ10 ha.2.2.2.1 hs.2.2.2.1 rfl (by omega) (by decide) (Nat.le_of_ble_eq_true rfl) dX5_copyFrom_42 rfl ?_
  refine R_aload_n (n := 46) dX5_copyFrom_45 rfl rfl ?_
  refine gf_X5_21 (n := 49) ha dX5_copyFrom_46 rfl ?_
  refine R_iconst (v := nI 0) (n := 50) dX5_copyFrom_49 rfl rfl ?_
  refine R_aload_n (n := 51) dX5_copyFrom_50 rfl rfl ?_
  refine gf_X5_21 (n := 54) hs dX5_copyFrom_51 rfl ?_
  refine R_iconst (v := nI 0) (n := 55) dX5_copyFrom_54 rfl rfl ?_
  refine R_iconst (v := nI 5) (n := 56) dX5_copyFrom_55 rfl rfl ?_
  refine R_copy (n := 59) tM_RX5_27 tV_System_arraycopy tT_System_arraycopy tN_RJ10 ha.2.2.2.2.1 hs.2.2.2.2.1 rfl (by omega) (by decide) (Nat.le_of_ble_eq_true rfl) dX5_copyFrom_56 rfl ?_
  refine R_aload_n (n := 60) dX5_copyFrom_59 rfl rfl ?_
  refine gf_X5_24 (n := 63) ha dX5_copyFrom_60 rfl ?_
  refine R_iconst (v := nI 0) (n := 64) dX5_copyFrom_63 rfl rfl ?_
  refine R_aload_n (n := 65) dX5_copyFrom_64 rfl rfl ?_
  refine gf_X5_24 (n := 68) hs dX5_copyFrom_65 rfl ?_
  refine R_iconst (v := nI 0) (n := 69) dX5_copyFrom_68 rfl rfl ?_
  refine R_bipush (v := nI 30) (n := 71) dX5_copyFrom_69 rfl rfl ?_
  refine R_copy (n := 74) tM_RX5_27 tV_System_arraycopy tT_System_arraycopy tN_RJ10 ha.2.2.2.2.2 hs.2.2.2.2.2 rfl (by omega) (by decide) (Nat.le_of_ble_eq_true rfl) dX5_copyFrom_71 rfl ?_
  refine R_aload_n (n := 75) dX5_copyFrom_74 rfl rfl ?_
  refine R_aload_n (n := 76) dX5_copyFrom_75 rfl rfl ?_
  refine gf_X5_33 (n := 79) ha dX5_copyFrom_76 rfl ?_
  refine pf_X5_33 (n := 82) hs dX5_copyFrom_79 rfl ?_
  refine R_aload_n (n := 83) dX5_copyFrom_82 rfl rfl ?_
  refine R_aload_n (n := 84) dX5_copyFrom_83 rfl rfl ?_
  refine gf_X5_37 (n := 87) ha dX5_copyFrom_84 rfl ?_
  refine pf_X5_37 (n := 90) hs dX5_copyFrom_87 rfl ?_
  refine R_ret dX5_copyFrom_90 rfl (⟨rfl, ⟨fun k hk => ?_, fun k hk => ?_, fun k hk => ?_, fun k hk => ?_, fun k hk => ?_, ?_, ?_⟩, (((((((Sme.rf _ _).sta ?_).sta ?_).sta ?_).sta ?_).sta ?_).sti ?_).sti ?_⟩)
  all_goals first
    | (intro _; omega)
    | omega
    | (repeat (first | rw [sti_1_pf _ _ _ _ _ _ (by omega)] | rw [sta_1_ne _ _ _ (by omega)] | rw [sta_1_eq] | rw [cpy0 (by omega)] | rw [sti_1_eq]))
end ST

