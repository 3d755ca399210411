/-! THE MODEL: what is tried -/
section M4
variable {G : Gm} {l : Launch} {μ : Mem} {C : CF} {S : ST} {z : Nat}
theorem mst_add {j k : Nat} {T : ST} {x : Int32} (h : MSt μ 128 54 z C T) (hC : C.1 ≤ 6 ∧ C.2.1 ≤ 5 ∧ z ≤ 6) (hj : j < 6) (hk : k < 5) : MSt (sti μ 128 (77 + 6 * k + j) (μ.1 128 (77 + 6 * k + j) + x)) 128 54 z C (addE T (k * 6 + j) x) := by
  obtain ⟨t1, t2, t3, t4, t5, t6⟩ := h
  refine ⟨fun p hp => ?_, fun p hp => ?_, fun p hp => ?_, fun p hp => ?_, fun e he => ?_, ?_⟩
  · rw [sti_1_pf _ _ _ _ _ _ (by omega)]; exact t1 p hp
  · rw [sti_1_pf _ _ _ _ _ _ (by omega)]; exact t2 p hp
  · rw [sti_1_pf _ _ _ _ _ _ (by omega)]; exact t3 p hp
  · rw [sti_1_pf _ _ _ _ _ _ (by omega)]; exact t4 p hp
  · rw [sti_1]
    show _ = if e = k * 6 + j then sGvn T e + x else sGvn T e
    by_cases q : e = k * 6 + j
    · rw [if_pos ⟨rfl, by omega⟩, if_pos q, ← t5 e he, show 54 + 23 + e = 77 + 6 * k + j by omega]
    · rw [if_neg (by omega), if_neg q]; exact t5 e he
  · rw [sti_1_pf _ _ _ _ _ _ (by omega)]; exact t6
theorem ct_X8_isFirst {T : ST} {v : Nat} (hM : MCf μ C) (hT : MSt μ 128 54 C.1 C T) (hO : Ok C C.1 T) (hv : v < C.1) : Ct G l 4 yX8_isFirst cX8_isFirst 2 (some .boolean) [.ref (G.2.2.1 125), .int (nI v)] μ (fun r μ' => r = some (.int (bi (decide (sRow (bas C T) 0 = v)))) ∧ Sme Ptm μ μ') := by
  obtain ⟨o1, o2, o3, o4, o5, o6⟩ := id hO
  have hOb := ok_gos (C.2.1 - sPsd T) T hO (by omega)
  have r0 : sRow (bas C T) 0 < C.1 := hOb.2.2.2.1 0 (by omega)
  refine Ct.of 0 (by decide +kernel) rfl (Nat.le_of_ble_eq_true rfl) ?_
  show V G l RX8 cX8_isFirst 2 _ false _ _ 0 [some (.ref _), some (.int _)] [] _
  refine R_aload_n (n := 1) dX8_isFirst_0 rfl rfl ?_
  refine R_aload_n (n := 2) dX8_isFirst_1 rfl rfl ?_
  refine ge_X8_83 (n := 5) dX8_isFirst_2 rfl (hM.2.1) ?_
  refine iv_X8_129 (n := 8) (ct_X8_passAll (w0 := μ.1 132) hM hT (fun j hj => rfl) hO) (by decide) dX8_isFirst_5 rfl (Nat.le_of_ble_eq_true rfl) (fun r μ' hq => ?_)
  obtain ⟨rfl, f1, f2, f3⟩ := hq
  have e0 : μ'.1 128 54 = nI (sRow (bas C T) 0) := f1.1 0 (by omega)
  refine R_aload_n (n := 9) dX8_isFirst_8 rfl rfl ?_
  refine gf_X8_16 (n := 12) dX8_isFirst_9 rfl ?_
  refine R_bipush (v := nI 54) (n := 14) dX8_isFirst_12 rfl rfl ?_
  refine R_iald_e (n := 15) sh_128 (rfl) (by omega) dX8_isFirst_14 rfl (e0) ?_
  refine R_iload_n (n := 16) dX8_isFirst_15 rfl rfl ?_
  by_cases q1 : sRow (bas C T) 0 = v
  · refine R_icmp_ne_f (n := 19) dX8_isFirst_16 rfl rfl (congrArg nI q1) ?_
    refine R_iconst (v := nI 1) (n := 20) dX8_isFirst_19 rfl rfl ?_
    refine R_goto (tgt := 24) dX8_isFirst_20 rfl ?_
    refine R_iret dX8_isFirst_24 rfl (by first | rfl | exact nar_bi _) (⟨by rw [decide_eq_true q1]; rfl, f3⟩)
  · refine R_icmp_ne_t (tgt := 23) dX8_isFirst_16 rfl (by rw [nI_eq (by omega) (by omega)]; omega) ?_
    refine R_iconst (v := nI 0) (n := 24) dX8_isFirst_23 rfl rfl ?_
    refine R_iret dX8_isFirst_24 rfl (by first | rfl | exact nar_bi _) (⟨by rw [decide_eq_false q1]; rfl, f3⟩)
theorem ct_X8_hoursBy {s : Nat} (hQ : QM μ C S) (hs : s < 64) : Ct G l 4 yX8_hoursBy cX8_hoursBy 4 (some .int) [.ref (G.2.2.1 125), .int (nI s)] μ (fun r μ' => r = some (.int (lh C S s)) ∧ Sme Ptm μ μ') := by
  obtain ⟨hM, hS, hO, hP⟩ := id hQ
  obtain ⟨o1, o2, o3, o4, o5, o6⟩ := id hO
  refine Ct.of 2 (by decide +kernel) rfl (Nat.le_of_ble_eq_true rfl) ?_
  show V G l RX8 cX8_hoursBy 4 _ false _ _ 0 [some (.ref _), some (.int _), none, none] [] _
  refine R_aload_n (n := 1) dX8_hoursBy_0 rfl rfl ?_
  refine iv_X8_126 (n := 4) (ct_X8_layTrial hQ) (by decide) dX8_hoursBy_1 rfl (Nat.le_of_ble_eq_true rfl) (fun r μ' hq => ?_)
  obtain ⟨rfl, -, t, tw, ts⟩ := hq
  obtain ⟨t1, t2, t3, t4, t5, t6⟩ := t
  refine R_iconst (v := nI 0) (n := 5) dX8_hoursBy_4 rfl rfl ?_
  refine R_istore_n (n := 6) dX8_hoursBy_5 rfl (Nat.le_of_ble_eq_true rfl) (Nat.le_of_ble_eq_true rfl) ?_
  refine R_iconst (v := nI 0) (n := 7) dX8_hoursBy_6 rfl rfl ?_
  refine R_istore_n (n := 8) dX8_hoursBy_7 rfl (Nat.le_of_ble_eq_true rfl) (Nat.le_of_ble_eq_true rfl) ?_
  refine down (z := C.1) (P := fun k => ∀ (μ2 : Mem), (∀ p, p < (fR (sRow S) s k).1 → μ2.1 128 (54 + p) = nI ((fR (sRow S) s k).2 p)) → (∀ j, j < k → μ2.1 128 (60 + j) = nI 0) → Sme (fun i j => i = 128 ∧ 54 ≤ j ∧ j < 66) μ' μ2 → V G l RX8 cX8_hoursBy 4 4 false _ (fun r μ' => r = some (.int (lh C S s)) ∧ Sme Ptm μ μ') 8 [some (.ref _), some (.int (nI s)), some (.int (nI (fR (sRow S) s k).1)), some (.int (nI k))] [] μ2) ?_ ?_ 0 (Nat.zero_le _) μ' (fun p h => absurd h (by show ¬ p < 0; omega)) (fun j h => absurd h (by omega)) (Sme.rf _ _)
  · intro μ2 a1 a2 a3
    have b2 : Sme Ptm μ μ2 := ts.tr (a3.mono (fun i j h => by omega))
    have hM2 := hM.kept b2 (by omega) (by omega) (fun j => by omega) (fun j => by omega)
    have hz := fR_le (sRow S) s C.1
    have hT2 : MSt μ2 128 54 (fR (sRow S) s C.1).1 C (lhS C S s) := by
      refine ⟨a1, fun p hp => a2 p hp, fun p hp => ?_, fun p hp => ?_, fun p hp => ?_, ?_⟩
      · rw [a3.1 _ _ (by omega)]; exact t3 p hp
      · rw [a3.1 _ _ (by omega)]; exact t4 p hp
      · rw [a3.1 _ _ (by omega)]; exact t5 p hp
      · rw [a3.1 _ _ (by omega)]; exact t6
    have hO2 : Ok C (fR (sRow S) s C.1).1 (lhS C S s) := ⟨o1, o2, hz, fR_lt C.1 o4, o5, o6⟩
    refine R_iload_n (n := 9) dX8_hoursBy_8 rfl rfl ?_
    refine R_aload_n (n := 10) dX8_hoursBy_9 rfl rfl ?_
    refine ge_X8_83 (n := 13) dX8_hoursBy_10 rfl (hM2.2.1) ?_
    refine R_icmp_ge_t (tgt := 63) dX8_hoursBy_13 rfl (by rw [nI_leI (by omega) (by omega)]; omega) ?_
    refine R_aload_n (n := 64) dX8_hoursBy_63 rfl rfl ?_
    refine R_iload_n (n := 65) dX8_hoursBy_64 rfl rfl ?_
    refine iv_X8_129 (n := 68) (ct_X8_passAll (w0 := μ2.1 132) hM2 hT2 (fun j hj => rfl) hO2) (by decide) dX8_hoursBy_65 rfl (Nat.le_of_ble_eq_true rfl) (fun r μ' hq => ?_)
    obtain ⟨rfl, g1, g2, g3⟩ := hq
    have hO3 := ok_gos (C.2.1 - sPsd (lhS C S s)) _ hO2 (by show sPsd S + (C.2.1 - sPsd S) ≤ C.2.1; omega)
    refine R_aload_n (n := 69) dX8_hoursBy_68 rfl rfl ?_
    refine R_iconst (v := nI 1) (n := 70) dX8_hoursBy_69 rfl rfl ?_
    refine R_iload_n (n := 71) dX8_hoursBy_70 rfl rfl ?_
    refine iv_X8_157 (n := 74) (ct_X8_greatest (lv := 1) (by omega) (by omega) g1.1 (fun p hp => Nat.lt_of_lt_of_le (hO3.2.2.2.1 p hp) o1) (fun p hp => g1.2.1 _ (hO3.2.2.2.1 p hp))) (by decide) dX8_hoursBy_71 rfl (Nat.le_of_ble_eq_true rfl) (fun r μ' hq => ?_)
    obtain ⟨rfl, hq⟩ := hq
    have hq := hq.symm
    subst hq
    refine R_iret dX8_hoursBy_74 rfl (rfl) (⟨rfl, b2.tr g3⟩)
  · intro k hk ih μ2 a1 a2 a3
    have b2 : Sme Ptm μ μ2 := ts.tr (a3.mono (fun i j h => by omega))
    have hM2 := hM.kept b2 (by omega) (by omega) (fun j => by omega) (fun j => by omega)
    have hrk := o4 k hk
    have hr2 : μ2.1 128 k = nI (sRow S k) := by
      rw [b2.1 _ _ (by omega)]
      have := hS.1 k hk
      rwa [Nat.zero_add] at this
    have hz := fR_le (sRow S) s k
    refine R_iload_n (n := 9) dX8_hoursBy_8 rfl rfl ?_
    refine R_aload_n (n := 10) dX8_hoursBy_9 rfl rfl ?_
    refine ge_X8_83 (n := 13) dX8_hoursBy_10 rfl (hM2.2.1) ?_
    refine R_icmp_ge_f (n := 16) dX8_hoursBy_13 rfl rfl (by rw [nI_leI (by omega) (by omega)]; omega) ?_
    refine R_iload_n (n := 17) dX8_hoursBy_16 rfl rfl ?_
    refine R_aload_n (n := 18) dX8_hoursBy_17 rfl rfl ?_
    refine gf_X8_16 (n := 21) dX8_hoursBy_18 rfl ?_
    refine R_iload_n (n := 22) dX8_hoursBy_21 rfl rfl ?_
    refine R_iald_e (n := 23) sh_128 (rfl) (by omega) dX8_hoursBy_22 rfl (by first | exact hr2 | (rw [sti_1_pf _ _ _ _ _ _ (by omega)]; exact hr2) | (rw [sti_1_pf _ _ _ _ _ _ (by omega), sti_1_pf _ _ _ _ _ _ (by omega)]; exact hr2) | (rw [sti_1_pf _ _ _ _ _ _ (by omega), sti_1_pf _ _ _ _ _ _ (by omega), sti_1_pf _ _ _ _ _ _ (by omega)]; exact hr2) | (rw [sti_1_pf _ _ _ _ _ _ (by omega), sti_1_pf _ _ _ _ _ _ (by omega), sti_1_pf _ _ _ _ _ _ (by omega), sti_1_pf _ _ _ _ _ _ (by omega)]; exact hr2) | (rw [sti_1_pf _ _ _ _ _ _ (by omega), sti_1_pf _ _ _ _ _ _ (by omega), sti_1_pf _ _ _ _ _ _ (by omega), sti_1_pf _ _ _ _ _ _ (by omega), sti_1_pf _ _ _ _ _ _ (by omega)]; exact hr2)) ?_
    refine iv_X8_139 (n := 26) (ct_X8_has hs (by omega)) (by decide) dX8_hoursBy_23 rfl (Nat.le_of_ble_eq_true rfl) (fun r μ' hq => ?_)
    obtain ⟨rfl, hq⟩ := hq
    have hq := hq.symm
    subst hq
    by_cases e : tb s (sRow S k) = 1
    · rw [decide_eq_true e]
      rw [fR, if_pos e] at ih
      refine R_if_eq_f (n := 29) dX8_hoursBy_26 rfl rfl (by decide) ?_
      refine R_aload_n (n := 30) dX8_hoursBy_29 rfl rfl ?_
      refine gf_X8_16 (n := 33) dX8_hoursBy_30 rfl ?_
      refine R_bipush (v := nI 54) (n := 35) dX8_hoursBy_33 rfl rfl ?_
      refine R_iload_n (n := 36) dX8_hoursBy_35 rfl rfl ?_
      refine R_iadd_n (n := 37) dX8_hoursBy_36 rfl ?_
      refine R_aload_n (n := 38) dX8_hoursBy_37 rfl rfl ?_
      refine gf_X8_16 (n := 41) dX8_hoursBy_38 rfl ?_
      refine R_iload_n (n := 42) dX8_hoursBy_41 rfl rfl ?_
      refine R_iald_e (n := 43) sh_128 (rfl) (by omega) dX8_hoursBy_42 rfl (by first | exact hr2 | (rw [sti_1_pf _ _ _ _ _ _ (by omega)]; exact hr2) | (rw [sti_1_pf _ _ _ _ _ _ (by omega), sti_1_pf _ _ _ _ _ _ (by omega)]; exact hr2) | (rw [sti_1_pf _ _ _ _ _ _ (by omega), sti_1_pf _ _ _ _ _ _ (by omega), sti_1_pf _ _ _ _ _ _ (by omega)]; exact hr2) | (rw [sti_1_pf _ _ _ _ _ _ (by omega), sti_1_pf _ _ _ _ _ _ (by omega), sti_1_pf _ _ _ _ _ _ (by omega), sti_1_pf _ _ _ _ _ _ (by omega)]; exact hr2) | (rw [sti_1_pf _ _ _ _ _ _ (by omega), sti_1_pf _ _ _ _ _ _ (by omega), sti_1_pf _ _ _ _ _ _ (by omega), sti_1_pf _ _ _ _ _ _ (by omega), sti_1_pf _ _ _ _ _ _ (by omega)]; exact hr2)) ?_
      refine R_iast (n := 44) sh_128 (rfl) (by omega) dX8_hoursBy_43 rfl ?_
      refine R_iinc (n := 47) dX8_hoursBy_44 rfl rfl (nI_1 _) (Nat.le_of_ble_eq_true rfl) ?_
      refine R_aload_n (n := 48) dX8_hoursBy_47 rfl rfl ?_
      refine gf_X8_16 (n := 51) dX8_hoursBy_48 rfl ?_
      refine R_bipush (v := nI 60) (n := 53) dX8_hoursBy_51 rfl rfl ?_
      refine R_iload_n (n := 54) dX8_hoursBy_53 rfl rfl ?_
      refine R_iadd_n (n := 55) dX8_hoursBy_54 rfl ?_
      refine R_iconst (v := nI 0) (n := 56) dX8_hoursBy_55 rfl rfl ?_
      refine R_iast (n := 57) sh_128 (rfl) (by omega) dX8_hoursBy_56 rfl ?_
      refine R_iinc (n := 60) dX8_hoursBy_57 rfl rfl (nI_1 _) (Nat.le_of_ble_eq_true rfl) ?_
      refine R_goto (tgt := 8) dX8_hoursBy_60 rfl ?_
      refine ih _ (fun p hp => ?_) (fun j hj => ?_) ((a3.sti (by omega)).sti (by omega))
      · have hp' : p < (fR (sRow S) s k).1 + 1 := hp
        rw [sti_1_pf _ _ _ _ _ _ (by omega), sti_1]
        show _ = nI (updN _ _ _ p)
        unfold updN
        by_cases e2 : p = (fR (sRow S) s k).1
        · rw [if_pos ⟨rfl, by omega⟩, if_pos e2]
        · rw [if_neg (by omega), if_neg e2]
          exact a1 p (by omega)
      · rw [sti_1]
        by_cases e2 : j = k
        · rw [if_pos ⟨rfl, by omega⟩]
        · rw [if_neg (by omega), sti_1_pf _ _ _ _ _ _ (by omega)]; exact a2 j (by omega)
    · rw [decide_eq_false e]
      rw [fR, if_neg e] at ih
      refine R_if_eq_t (tgt := 47) dX8_hoursBy_26 rfl (by decide) ?_
      refine R_aload_n (n := 48) dX8_hoursBy_47 rfl rfl ?_
      refine gf_X8_16 (n := 51) dX8_hoursBy_48 rfl ?_
      refine R_bipush (v := nI 60) (n := 53) dX8_hoursBy_51 rfl rfl ?_
      refine R_iload_n (n := 54) dX8_hoursBy_53 rfl rfl ?_
      refine R_iadd_n (n := 55) dX8_hoursBy_54 rfl ?_
      refine R_iconst (v := nI 0) (n := 56) dX8_hoursBy_55 rfl rfl ?_
      refine R_iast (n := 57) sh_128 (rfl) (by omega) dX8_hoursBy_56 rfl ?_
      refine R_iinc (n := 60) dX8_hoursBy_57 rfl rfl (nI_1 _) (Nat.le_of_ble_eq_true rfl) ?_
      refine R_goto (tgt := 8) dX8_hoursBy_60 rfl ?_
      refine ih _ (fun p hp => ?_) (fun j hj => ?_) (a3.sti (by omega))
      · rw [sti_1_pf _ _ _ _ _ _ (by omega)]; exact a1 p hp
      · rw [sti_1]
        by_cases e2 : j = k
        · rw [if_pos ⟨rfl, by omega⟩]
        · rw [if_neg (by omega)]; exact a2 j (by omega)
theorem ct_X8_comesSo {k s : Nat} {x : Int32} (hQ : QM μ C S) (hk : k < C.2.1) (hp : sPsd S ≤ k) (hs : s < 64) : Ct G l 3 yX8_comesSo cX8_comesSo 5 (some .boolean) [.ref (G.2.2.1 125), .int (nI k), .int x, .int (nI s)] μ (fun r μ' => r = some (.int (bi (comeF C S k x s))) ∧ Sme Ptm μ μ') := by
  obtain ⟨hM, hS, hO, hP⟩ := id hQ
  obtain ⟨o1, o2, o3, o4, o5, o6⟩ := id hO
  refine Ct.of 1 (by decide +kernel) rfl (Nat.le_of_ble_eq_true rfl) ?_
  show V G l RX8 cX8_comesSo 5 _ false _ _ 0 [some (.ref _), some (.int _), some (.int _), some (.int _), none] [] _
  refine R_aload_n (n := 1) dX8_comesSo_0 rfl rfl ?_
  refine iv_X8_126 (n := 4) (ct_X8_layTrial hQ) (by decide) dX8_comesSo_1 rfl (Nat.le_of_ble_eq_true rfl) (fun r μ' hq => ?_)
  obtain ⟨rfl, -, hT, tw, ts⟩ := hq
  refine R_aload_n (n := 5) dX8_comesSo_4 rfl rfl ?_
  refine gf_X8_16 (n := 8) dX8_comesSo_5 rfl ?_
  refine R_bipush (v := nI 66) (n := 10) dX8_comesSo_8 rfl rfl ?_
  refine R_iload_n (n := 11) dX8_comesSo_10 rfl rfl ?_
  refine R_iadd_n (n := 12) dX8_comesSo_11 rfl ?_
  refine R_iconst (v := nI 3) (n := 13) dX8_comesSo_12 rfl rfl ?_
  refine R_iast (n := 14) sh_128 (rfl) (by omega) dX8_comesSo_13 rfl ?_
  refine R_iconst (v := nI 0) (n := 15) dX8_comesSo_14 rfl rfl ?_
  refine R_istore (n := 17) dX8_comesSo_15 rfl (Nat.le_of_ble_eq_true rfl) (Nat.le_of_ble_eq_true rfl) ?_
  have c3 : Sme Ptm μ (sti μ' 128 (66 + k) (nI 3)) := ts.sti (by omega)
  have hT2 : MSt (sti μ' 128 (66 + k) (nI 3)) 128 54 C.1 C (setLaw S k 3) := by
    obtain ⟨t1, t2, t3, t4, t5, t6⟩ := hT
    refine ⟨fun p hp => ?_, fun p hp => ?_, fun p hp => ?_, fun p hp => ?_, fun e he => ?_, ?_⟩
    · rw [sti_1_pf _ _ _ _ _ _ (by omega)]; exact t1 p hp
    · rw [sti_1_pf _ _ _ _ _ _ (by omega)]; exact t2 p hp
    · rw [sti_1]
      show _ = nI (updN _ _ _ p)
      unfold updN
      by_cases e2 : p = k
      · rw [if_pos ⟨rfl, by omega⟩, if_pos e2]
      · rw [if_neg (by omega), if_neg e2]; exact t3 p hp
    · rw [sti_1_pf _ _ _ _ _ _ (by omega)]; exact t4 p hp
    · rw [sti_1_pf _ _ _ _ _ _ (by omega)]; exact t5 e he
    · rw [sti_1_pf _ _ _ _ _ _ (by omega)]; exact t6
  have hO2 : Ok C C.1 (setLaw S k 3) := by
    refine ⟨o1, o2, o3, o4, fun j hj => ?_, o6⟩
    show updN _ _ _ j < 4
    unfold updN
    split
    · omega
    · exact o5 j hj
  generalize sti μ' 128 (66 + k) (nI 3) = μ2 at *
  refine down (z := C.1) (P := fun j => ∀ μ1 : Mem, MSt μ1 128 54 C.1 C (addBits (setLaw S k 3) k s j) → Sme Ptm μ μ1 → V G l RX8 cX8_comesSo 5 3 false _ (fun r μ' => r = some (.int (bi (comeF C S k x s))) ∧ Sme Ptm μ μ') 17 [some (.ref _), some (.int (nI k)), some (.int x), some (.int (nI s)), some (.int (nI j))] [] μ1) ?_ ?_ 0 (Nat.zero_le _) μ2 hT2 c3
  · intro μ1 h1 h2
    have hM1 := hM.kept h2 (by omega) (by omega) (fun j => by omega) (fun j => by omega)
    refine R_iload (n := 19) dX8_comesSo_17 rfl rfl ?_
    refine R_aload_n (n := 20) dX8_comesSo_19 rfl rfl ?_
    refine ge_X8_83 (n := 23) dX8_comesSo_20 rfl (hM1.2.1) ?_
    refine R_icmp_ge_t (tgt := 56) dX8_comesSo_23 rfl (by rw [nI_leI (by omega) (by omega)]; omega) ?_
    have hpp : sPsd (addBits (setLaw S k 3) k s C.1) = sPsd S := (addBits_eq _ _ _ _).2.2.1
    have hO3 := ok_addBits k s C.1 hO2
    have loop : ∀ (f : Nat) (T1 : ST) (μ3 : Mem), sPsd T1 + f = k + 1 → MSt μ3 128 54 C.1 C T1 → Ok C C.1 T1 → gos C C.1 f T1 = gos C C.1 (k + 1 - sPsd S) (addBits (setLaw S k 3) k s C.1) → Sme Ptm μ μ3 → V G l RX8 cX8_comesSo 5 3 false (some .boolean) (fun r μ' => r = some (.int (bi (comeF C S k x s))) ∧ Sme Ptm μ μ') 56 [some (.ref (G.2.2.1 125)), some (.int (nI k)), some (.int x), some (.int (nI s)), some (.int (nI C.1))] [] μ3 := by
      intro f
      induction f with
      | zero =>
        intro T1 μ3 a1 a2 a3 a4 a5
        have hM3 := hM.kept a5 (by omega) (by omega) (fun j => by omega) (fun j => by omega)
        refine R_aload_n (n := 57) dX8_comesSo_56 rfl rfl ?_
        refine gf_X8_16 (n := 60) dX8_comesSo_57 rfl ?_
        refine R_bipush (v := nI 107) (n := 62) dX8_comesSo_60 rfl rfl ?_
        refine R_iald_e (n := 63) sh_128 (rfl) (by omega) dX8_comesSo_62 rfl (a2.2.2.2.2.2) ?_
        refine R_iload_n (n := 64) dX8_comesSo_63 rfl rfl ?_
        refine R_icmp_gt_t (tgt := 79) dX8_comesSo_64 rfl (by rw [nI_ltI (by omega) (by omega)]; omega) ?_
        refine R_aload_n (n := 80) dX8_comesSo_79 rfl rfl ?_
        refine R_iconst (v := nI 1) (n := 81) dX8_comesSo_80 rfl rfl ?_
        refine R_aload_n (n := 82) dX8_comesSo_81 rfl rfl ?_
        refine ge_X8_83 (n := 85) dX8_comesSo_82 rfl (hM3.2.1) ?_
        refine iv_X8_121 (n := 88) (ct_X8_figuresOf (lv := 1) (by omega) o1 a2.1) (by decide) dX8_comesSo_85 rfl (Nat.le_of_ble_eq_true rfl) (fun r μ' hq => ?_)
        obtain ⟨rfl, hq⟩ := hq
        have hq := hq.symm
        subst hq
        rw [show T1 = _ from a4]
        refine R_iload_n (n := 89) dX8_comesSo_88 rfl rfl ?_
        refine R_icmp_ne (n := 92) (tgt := 96) dX8_comesSo_89 rfl rfl (fun h => ?_) (fun h => ?_)
        · refine R_iconst (v := nI 0) (n := 97) dX8_comesSo_96 rfl rfl ?_
          refine R_iret dX8_comesSo_97 rfl (by first | rfl | exact nar_bi _) (⟨by rw [comeF, decide_eq_false h]; rfl, a5⟩)
        · refine R_iconst (v := nI 1) (n := 93) dX8_comesSo_92 rfl rfl ?_
          refine R_goto (tgt := 97) dX8_comesSo_93 rfl ?_
          refine R_iret dX8_comesSo_97 rfl (by first | rfl | exact nar_bi _) (⟨by rw [comeF, decide_eq_true h]; rfl, a5⟩)
      | succ f ih =>
        intro T1 μ3 a1 a2 a3 a4 a5
        have hM3 := hM.kept a5 (by omega) (by omega) (fun j => by omega) (fun j => by omega)
        refine R_aload_n (n := 57) dX8_comesSo_56 rfl rfl ?_
        refine gf_X8_16 (n := 60) dX8_comesSo_57 rfl ?_
        refine R_bipush (v := nI 107) (n := 62) dX8_comesSo_60 rfl rfl ?_
        refine R_iald_e (n := 63) sh_128 (rfl) (by omega) dX8_comesSo_62 rfl (a2.2.2.2.2.2) ?_
        refine R_iload_n (n := 64) dX8_comesSo_63 rfl rfl ?_
        refine R_icmp_gt_f (n := 67) dX8_comesSo_64 rfl rfl (by rw [nI_ltI (by omega) (by omega)]; omega) ?_
        refine R_aload_n (n := 68) dX8_comesSo_67 rfl rfl ?_
        refine R_iconst (v := nI 1) (n := 69) dX8_comesSo_68 rfl rfl ?_
        refine R_aload_n (n := 70) dX8_comesSo_69 rfl rfl ?_
        refine ge_X8_83 (n := 73) dX8_comesSo_70 rfl (hM3.2.1) ?_
        refine iv_X8_117 (n := 76) (ct_X8_passOn (lv := 1) (w0 := μ3.1 132) (by omega) hM3 a2 (fun j hj => rfl) a3 (by omega)) (by decide) dX8_comesSo_73 rfl (Nat.le_of_ble_eq_true rfl) (fun r μ' hq => ?_)
        obtain ⟨rfl, g1, g2, g3⟩ := hq
        refine R_goto (tgt := 56) dX8_comesSo_76 rfl ?_
        exact ih (pass1 C C.1 T1) _ (by rw [sPsd_pass1]; omega) g1 (ok_pass1 a3 (by omega)) a4 (a5.tr (g3.mono (fun i j h => by omega)))
    exact loop (k + 1 - sPsd S) _ μ1 (by omega) h1 hO3 rfl h2
  · intro j hj ih μ1 h1 h2
    have hM1 := hM.kept h2 (by omega) (by omega) (fun j => by omega) (fun j => by omega)
    refine R_iload (n := 19) dX8_comesSo_17 rfl rfl ?_
    refine R_aload_n (n := 20) dX8_comesSo_19 rfl rfl ?_
    refine ge_X8_83 (n := 23) dX8_comesSo_20 rfl (hM1.2.1) ?_
    refine R_icmp_ge_f (n := 26) dX8_comesSo_23 rfl rfl (by rw [nI_leI (by omega) (by omega)]; omega) ?_
    refine R_aload_n (n := 27) dX8_comesSo_26 rfl rfl ?_
    refine gf_X8_16 (n := 30) dX8_comesSo_27 rfl ?_
    refine R_bipush (v := nI 77) (n := 32) dX8_comesSo_30 rfl rfl ?_
    refine R_bipush (v := nI 6) (n := 34) dX8_comesSo_32 rfl rfl ?_
    refine R_iload_n (n := 35) dX8_comesSo_34 rfl rfl ?_
    refine R_imul_n (n := 36) dX8_comesSo_35 rfl ?_
    refine R_iadd_n (n := 37) dX8_comesSo_36 rfl ?_
    refine R_iload (n := 39) dX8_comesSo_37 rfl rfl ?_
    refine R_iadd_n (n := 40) dX8_comesSo_39 rfl ?_
    refine R_dup2 (n := 41) dX8_comesSo_40 rfl rfl rfl ?_
    refine R_iald (n := 42) sh_128 (rfl) (by omega) dX8_comesSo_41 rfl ?_
    refine R_iload_n (n := 43) dX8_comesSo_42 rfl rfl ?_
    refine R_iload (n := 45) dX8_comesSo_43 rfl rfl ?_
    refine R_ishr (n := 46) dX8_comesSo_45 rfl ?_
    refine R_iconst (v := nI 1) (n := 47) dX8_comesSo_46 rfl rfl ?_
    refine R_iand (n := 48) dX8_comesSo_47 rfl ?_
    rw [bit_at s hs j (by omega)]
    refine R_iadd (n := 49) dX8_comesSo_48 rfl ?_
    refine R_iast (n := 50) sh_128 (rfl) (by omega) dX8_comesSo_49 rfl ?_
    refine R_iinc (n := 53) dX8_comesSo_50 rfl rfl (nI_1 _) (Nat.le_of_ble_eq_true rfl) ?_
    refine R_goto (tgt := 17) dX8_comesSo_53 rfl ?_
    exact ih _ (mst_add h1 ⟨o1, o2, o1⟩ (by omega) (by omega)) (h2.sti (by omega))
theorem pos_all {n : Nat} {row : Nat → Nat} (h : Pm n row) {v : Nat} (hv : v < n) : ∀ q, q < n → row q = v → q = posF row v n := by
  intro q hq e
  obtain ⟨p1, p2, p3⟩ := pos_spec h hv
  exact h.2.1 q _ hq p1 (e.trans p2.symm)
theorem ct_X8_layLosses {one other k : Nat} (hQ : QM μ C S) (h1 : one < C.1) (h2 : other < C.1) (hk : k < C.2.1) : Ct G l 4 yX8_layLosses cX8_layLosses 5 none [.ref (G.2.2.1 125), .int (nI one), .int (nI other), .int (nI k)] μ (fun r μ' => r = none ∧ (∀ e, e < 16 → μ'.1 135 e = nI (ls1 C S one other k e) ∧ μ'.1 136 e = nI (ls2 C S one other k e)) ∧ Sme Qrm μ μ') := by
  obtain ⟨hM, hS, hO, hP⟩ := id hQ
  obtain ⟨o1, o2, o3, o4, o5, o6⟩ := id hO
  refine Ct.of 1 (by decide +kernel) rfl (Nat.le_of_ble_eq_true rfl) ?_
  show V G l RX8 cX8_layLosses 5 _ false none _ 0 [some (.ref _), some (.int _), some (.int _), some (.int _), none] [] _
  refine R_iconst (v := nI 0) (n := 1) dX8_layLosses_0 rfl rfl ?_
  refine R_istore (n := 3) dX8_layLosses_1 rfl (Nat.le_of_ble_eq_true rfl) (Nat.le_of_ble_eq_true rfl) ?_
  refine down (z := 16) (P := fun a => ∀ (μ1 : Mem), (∀ e, e < a → μ1.1 135 e = nI (ls1 C S one other k e) ∧ μ1.1 136 e = nI (ls2 C S one other k e)) → Sme Qrm μ μ1 → V G l RX8 cX8_layLosses 5 4 false _ _ 3 [some (.ref _), some (.int (nI one)), some (.int (nI other)), some (.int (nI k)), some (.int (nI a))] [] μ1) ?_ ?_ 0 (Nat.zero_le _) μ (fun e h => absurd h (by omega)) (Sme.rf _ _)
  · intro μ1 a1 a2
    refine R_iload (n := 5) dX8_layLosses_3 rfl rfl ?_
    refine R_bipush (v := nI 16) (n := 7) dX8_layLosses_5 rfl rfl ?_
    refine R_icmp_ge_t (tgt := 118) dX8_layLosses_7 rfl (by rw [nI_leI (by omega) (by omega)]; omega) ?_
    refine R_ret dX8_layLosses_118 rfl (⟨rfl, a1, a2⟩)
  · intro a ha ih μ1 a1 a2
    have hQ1 := hQ.kept a2
    refine R_iload (n := 5) dX8_layLosses_3 rfl rfl ?_
    refine R_bipush (v := nI 16) (n := 7) dX8_layLosses_5 rfl rfl ?_
    refine R_icmp_ge_f (n := 10) dX8_layLosses_7 rfl rfl (by rw [nI_leI (by omega) (by omega)]; omega) ?_
    refine R_aload_n (n := 11) dX8_layLosses_10 rfl rfl ?_
    refine iv_X8_126 (n := 14) (ct_X8_layTrial hQ1) (by decide) dX8_layLosses_11 rfl (Nat.le_of_ble_eq_true rfl) (fun r μ' hq => ?_)
    obtain ⟨rfl, -, hT, tw, ts⟩ := hq
    refine R_aload_n (n := 15) dX8_layLosses_14 rfl rfl ?_
    refine gf_X8_16 (n := 18) dX8_layLosses_15 rfl ?_
    refine R_bipush (v := nI 77) (n := 20) dX8_layLosses_18 rfl rfl ?_
    refine R_bipush (v := nI 6) (n := 22) dX8_layLosses_20 rfl rfl ?_
    refine R_iload_n (n := 23) dX8_layLosses_22 rfl rfl ?_
    refine R_imul_n (n := 24) dX8_layLosses_23 rfl ?_
    refine R_iadd_n (n := 25) dX8_layLosses_24 rfl ?_
    refine R_iload_n (n := 26) dX8_layLosses_25 rfl rfl ?_
    refine R_iadd_n (n := 27) dX8_layLosses_26 rfl ?_
    refine R_dup2 (n := 28) dX8_layLosses_27 rfl rfl rfl ?_
    refine R_iald (n := 29) sh_128 (rfl) (by omega) dX8_layLosses_28 rfl ?_
    refine R_iload (n := 31) dX8_layLosses_29 rfl rfl ?_
    refine R_iconst (v := nI 4) (n := 32) dX8_layLosses_31 rfl rfl ?_
    refine R_idiv_n (n := 33) dX8_layLosses_32 (by omega) (by omega) (by omega) rfl ?_
    refine R_iadd (n := 34) dX8_layLosses_33 rfl ?_
    refine R_iast (n := 35) sh_128 (rfl) (by omega) dX8_layLosses_34 rfl ?_
    have hT1 := mst_add (x := nI (a / 4)) hT ⟨o1, o2, o1⟩ (j := one) (k := k) (by omega) (by omega)
    have c3 : Sme Ptm μ1 (sti μ' 128 (77 + 6 * k + one) (μ'.1 128 (77 + 6 * k + one) + nI (a / 4))) := ts.sti (by omega)
    refine R_aload_n (n := 36) dX8_layLosses_35 rfl rfl ?_
    refine gf_X8_16 (n := 39) dX8_layLosses_36 rfl ?_
    refine R_bipush (v := nI 77) (n := 41) dX8_layLosses_39 rfl rfl ?_
    refine R_bipush (v := nI 6) (n := 43) dX8_layLosses_41 rfl rfl ?_
    refine R_iload_n (n := 44) dX8_layLosses_43 rfl rfl ?_
    refine R_imul_n (n := 45) dX8_layLosses_44 rfl ?_
    refine R_iadd_n (n := 46) dX8_layLosses_45 rfl ?_
    refine R_iload_n (n := 47) dX8_layLosses_46 rfl rfl ?_
    refine R_iadd_n (n := 48) dX8_layLosses_47 rfl ?_
    refine R_dup2 (n := 49) dX8_layLosses_48 rfl rfl rfl ?_
    refine R_iald (n := 50) sh_128 (rfl) (by omega) dX8_layLosses_49 rfl ?_
    refine R_iload (n := 52) dX8_layLosses_50 rfl rfl ?_
    refine R_iconst (v := nI 4) (n := 53) dX8_layLosses_52 rfl rfl ?_
    refine R_irem_n (n := 54) dX8_layLosses_53 (by omega) (by omega) (by omega) rfl ?_
    refine R_iadd (n := 55) dX8_layLosses_54 rfl ?_
    refine R_iast (n := 56) sh_128 (rfl) (by omega) dX8_layLosses_55 rfl ?_
    have hT2 := mst_add (x := nI (a % 4)) hT1 ⟨o1, o2, o1⟩ (j := other) (k := k) (by omega) (by omega)
    have c4 := c3.sti (i := 128) (k := 77 + 6 * k + other) (x := (sti μ' 128 (77 + 6 * k + one) (μ'.1 128 (77 + 6 * k + one) + nI (a / 4))).1 128 (77 + 6 * k + other) + nI (a % 4)) (by omega)
    have hM4 := hQ1.1.kept c4 (by omega) (by omega) (fun j => by omega) (fun j => by omega)
    have hO4 : Ok C C.1 (addE (addE S (k * 6 + one) (nI (a / 4))) (k * 6 + other) (nI (a % 4))) := hO
    generalize sti (sti μ' 128 (77 + 6 * k + one) (μ'.1 128 (77 + 6 * k + one) + nI (a / 4))) 128 (77 + 6 * k + other) ((sti μ' 128 (77 + 6 * k + one) (μ'.1 128 (77 + 6 * k + one) + nI (a / 4))).1 128 (77 + 6 * k + other) + nI (a % 4)) = μ4 at *
    refine R_aload_n (n := 57) dX8_layLosses_56 rfl rfl ?_
    refine R_aload_n (n := 58) dX8_layLosses_57 rfl rfl ?_
    refine ge_X8_83 (n := 61) dX8_layLosses_58 rfl (hM4.2.1) ?_
    refine iv_X8_129 (n := 64) (ct_X8_passAll (w0 := μ4.1 132) hM4 hT2 (fun j hj => rfl) hO4) (by decide) dX8_layLosses_61 rfl (Nat.le_of_ble_eq_true rfl) (fun r μ' hq => ?_)
    obtain ⟨rfl, g1, g2, g3⟩ := hq
    have hO5 := ok_gos (C.2.1 - sPsd S) _ hO4 (by show sPsd S + (C.2.1 - sPsd S) ≤ C.2.1; omega)
    have hP5 := pm_gos (C := C) (C.2.1 - sPsd S) (addE (addE S (k * 6 + one) (nI (a / 4))) (k * 6 + other) (nI (a % 4))) hP
    obtain ⟨p1, p2, p3⟩ := pos_spec hP5 h1
    obtain ⟨q1, q2, q3⟩ := pos_spec hP5 h2
    have c5 : Sme Ptm μ1 μ' := c4.tr g3
    have hM5 := hQ1.1.kept c5 (by omega) (by omega) (fun j => by omega) (fun j => by omega)
    refine R_aload_n (n := 65) dX8_layLosses_64 rfl rfl ?_
    refine gf_X8_37 (n := 68) dX8_layLosses_65 rfl ?_
    refine R_iload (n := 70) dX8_layLosses_68 rfl rfl ?_
    refine R_iconst (v := nI 4) (n := 71) dX8_layLosses_70 rfl rfl ?_
    refine R_aload_n (n := 72) dX8_layLosses_71 rfl rfl ?_
    refine R_iconst (v := nI 1) (n := 73) dX8_layLosses_72 rfl rfl ?_
    refine R_iload_n (n := 74) dX8_layLosses_73 rfl rfl ?_
    refine R_aload_n (n := 75) dX8_layLosses_74 rfl rfl ?_
    refine ge_X8_83 (n := 78) dX8_layLosses_75 rfl (by first | exact hM5.2.1 | (rw [sti_1_pf _ _ _ _ _ _ (by omega)]; exact hM5.2.1) | (rw [sti_1_pf _ _ _ _ _ _ (by omega), sti_1_pf _ _ _ _ _ _ (by omega)]; exact hM5.2.1) | (rw [sti_1_pf _ _ _ _ _ _ (by omega), sti_1_pf _ _ _ _ _ _ (by omega), sti_1_pf _ _ _ _ _ _ (by omega)]; exact hM5.2.1) | (rw [sti_1_pf _ _ _ _ _ _ (by omega), sti_1_pf _ _ _ _ _ _ (by omega), sti_1_pf _ _ _ _ _ _ (by omega), sti_1_pf _ _ _ _ _ _ (by omega)]; exact hM5.2.1) | (rw [sti_1_pf _ _ _ _ _ _ (by omega), sti_1_pf _ _ _ _ _ _ (by omega), sti_1_pf _ _ _ _ _ _ (by omega), sti_1_pf _ _ _ _ _ _ (by omega), sti_1_pf _ _ _ _ _ _ (by omega)]; exact hM5.2.1)) ?_
    refine iv_X8_93 (n := 81) (ct_X8_placeOf (lv := 1) (by omega) o1 g1.1 (fun p hp => Nat.lt_of_lt_of_le (hO5.2.2.2.1 p hp) o1) (by omega) p1 p2 (pos_all hP5 h1)) (by decide) dX8_layLosses_78 rfl (Nat.le_of_ble_eq_true rfl) (fun r μ' hq => ?_)
    obtain ⟨rfl, hq⟩ := hq
    have hq := hq.symm
    subst hq
    refine R_imul_n (n := 82) dX8_layLosses_81 rfl ?_
    refine R_iload (n := 84) dX8_layLosses_82 rfl rfl ?_
    refine R_iconst (v := nI 4) (n := 85) dX8_layLosses_84 rfl rfl ?_
    refine R_idiv_n (n := 86) dX8_layLosses_85 (by omega) (by omega) (by omega) rfl ?_
    refine R_iadd_n (n := 87) dX8_layLosses_86 rfl ?_
    refine R_iast (n := 88) sh_135 (rfl) (by omega) dX8_layLosses_87 rfl ?_
    refine R_aload_n (n := 89) dX8_layLosses_88 rfl rfl ?_
    refine gf_X8_40 (n := 92) dX8_layLosses_89 rfl ?_
    refine R_iload (n := 94) dX8_layLosses_92 rfl rfl ?_
    refine R_iconst (v := nI 4) (n := 95) dX8_layLosses_94 rfl rfl ?_
    refine R_aload_n (n := 96) dX8_layLosses_95 rfl rfl ?_
    refine R_iconst (v := nI 1) (n := 97) dX8_layLosses_96 rfl rfl ?_
    refine R_iload_n (n := 98) dX8_layLosses_97 rfl rfl ?_
    refine R_aload_n (n := 99) dX8_layLosses_98 rfl rfl ?_
    refine ge_X8_83 (n := 102) dX8_layLosses_99 rfl (by first | exact hM5.2.1 | (rw [sti_1_pf _ _ _ _ _ _ (by omega)]; exact hM5.2.1) | (rw [sti_1_pf _ _ _ _ _ _ (by omega), sti_1_pf _ _ _ _ _ _ (by omega)]; exact hM5.2.1) | (rw [sti_1_pf _ _ _ _ _ _ (by omega), sti_1_pf _ _ _ _ _ _ (by omega), sti_1_pf _ _ _ _ _ _ (by omega)]; exact hM5.2.1) | (rw [sti_1_pf _ _ _ _ _ _ (by omega), sti_1_pf _ _ _ _ _ _ (by omega), sti_1_pf _ _ _ _ _ _ (by omega), sti_1_pf _ _ _ _ _ _ (by omega)]; exact hM5.2.1) | (rw [sti_1_pf _ _ _ _ _ _ (by omega), sti_1_pf _ _ _ _ _ _ (by omega), sti_1_pf _ _ _ _ _ _ (by omega), sti_1_pf _ _ _ _ _ _ (by omega), sti_1_pf _ _ _ _ _ _ (by omega)]; exact hM5.2.1)) ?_
    have g1' := g1.kept (P := fun i _ => i = 135) ⟨o1, o2, o1⟩ ((Sme.rf (fun i _ => i = 135) μ').sti (i := 135) (k := a) (x := nI (4 * posF (sRow (gos C C.1 (C.2.1 - sPsd S) (addE (addE S (k * 6 + one) (nI (a / 4))) (k * 6 + other) (nI (a % 4))))) one C.1 + a / 4)) rfl) (fun j z1 z2 => by omega)
    refine iv_X8_93 (n := 105) (ct_X8_placeOf (lv := 1) (by omega) o1 g1'.1 (fun p hp => Nat.lt_of_lt_of_le (hO5.2.2.2.1 p hp) o1) (by omega) q1 q2 (pos_all hP5 h2)) (by decide) dX8_layLosses_102 rfl (Nat.le_of_ble_eq_true rfl) (fun r μ' hq => ?_)
    obtain ⟨rfl, hq⟩ := hq
    have hq := hq.symm
    subst hq
    refine R_imul_n (n := 106) dX8_layLosses_105 rfl ?_
    refine R_iload (n := 108) dX8_layLosses_106 rfl rfl ?_
    refine R_iconst (v := nI 4) (n := 109) dX8_layLosses_108 rfl rfl ?_
    refine R_irem_n (n := 110) dX8_layLosses_109 (by omega) (by omega) (by omega) rfl ?_
    refine R_iadd_n (n := 111) dX8_layLosses_110 rfl ?_
    refine R_iast (n := 112) sh_136 (rfl) (by omega) dX8_layLosses_111 rfl ?_
    refine R_iinc (n := 115) dX8_layLosses_112 rfl rfl (nI_1 _) (Nat.le_of_ble_eq_true rfl) ?_
    refine R_goto (tgt := 3) dX8_layLosses_115 rfl ?_
    refine ih _ (fun e he => ?_) (((a2.tr c5.qm).sti (by omega)).sti (by omega))
    by_cases ee : e = a
    · rw [ee, sti_1_eq, sti_1_ne _ _ _ (by omega), sti_1_eq, ls1, ls2]
      exact ⟨rfl, rfl⟩
    · rw [sti_1_pf _ _ _ _ _ _ (by omega), sti_1_pf _ _ _ _ _ _ (by omega), sti_1_pf _ _ _ _ _ _ (by omega), sti_1_pf _ _ _ _ _ _ (by omega), c5.1 _ _ (by omega), c5.1 _ _ (by omega)]
      exact a1 e (by omega)
theorem restL_false {L1 L2 : Nat → Nat} {a b : Nat} : True := trivial
theorem ct_X8_isRest {e : Nat} {L1 L2 : Nat → Nat} (hL1 : ∀ e, e < 16 → μ.1 135 e = nI (L1 e) ∧ L1 e < 2 ^ 31) (hL2 : ∀ e, e < 16 → μ.1 136 e = nI (L2 e) ∧ L2 e < 2 ^ 31) (he : e < 16) : Ct G l 1 yX8_isRest cX8_isRest 4 (some .boolean) [.ref (G.2.2.1 125), .int (nI e)] μ (fun r μ' => r = some (.int (bi (restL L1 L2 (e / 4) (e % 4) 4 0))) ∧ μ' = μ) := by
  have ee : 4 * (e / 4) + e % 4 = e := by omega
  refine Ct.of 2 (by decide +kernel) rfl (Nat.le_of_ble_eq_true rfl) ?_
  show V G l RX8 cX8_isRest 4 _ false _ _ 0 [some (.ref _), some (.int _), none, none] [] _
  refine R_iconst (v := nI 1) (n := 1) dX8_isRest_0 rfl rfl ?_
  refine R_istore_n (n := 2) dX8_isRest_1 rfl (Nat.le_of_ble_eq_true rfl) (Nat.le_of_ble_eq_true rfl) ?_
  refine R_iconst (v := nI 0) (n := 3) dX8_isRest_2 rfl rfl ?_
  refine R_istore_n (n := 4) dX8_isRest_3 rfl (Nat.le_of_ble_eq_true rfl) (Nat.le_of_ble_eq_true rfl) ?_
  have loop : ∀ (f c : Nat) (b : Bool), c + f = 4 → (b && restL L1 L2 (e / 4) (e % 4) f c) = restL L1 L2 (e / 4) (e % 4) 4 0 → V G l RX8 cX8_isRest 4 1 false (some .boolean) (fun r μ' => r = some (.int (bi (restL L1 L2 (e / 4) (e % 4) 4 0))) ∧ μ' = μ) 4 [some (.ref (G.2.2.1 125)), some (.int (nI e)), some (.int (bi b)), some (.int (nI c))] [] μ := by
    intro f
    induction f with
    | zero =>
      intro c b h1 h2
      refine R_iload_n (n := 5) dX8_isRest_4 rfl rfl ?_
      refine R_iconst (v := nI 4) (n := 6) dX8_isRest_5 rfl rfl ?_
      refine R_icmp_ge_t (tgt := 67) dX8_isRest_6 rfl (by rw [nI_leI (by omega) (by omega)]; omega) ?_
      refine R_iload_n (n := 68) dX8_isRest_67 rfl rfl ?_
      refine R_iret dX8_isRest_68 rfl (by first | rfl | exact nar_bi _) (⟨by rw [← h2, restL, Bool.and_true], rfl⟩)
    | succ f ih =>
      intro c b h1 h2
      generalize restL L1 L2 (e / 4) (e % 4) 4 0 = X at *
      rw [restL] at h2
      have q1 := (hL1 (4 * c + e % 4) (by omega)).2
      have q2 := (hL1 e he).2
      have q3 := (hL2 (e - e % 4 + c) (by omega)).2
      have q4 := (hL2 e he).2
      refine R_iload_n (n := 5) dX8_isRest_4 rfl rfl ?_
      refine R_iconst (v := nI 4) (n := 6) dX8_isRest_5 rfl rfl ?_
      refine R_icmp_ge_f (n := 9) dX8_isRest_6 rfl rfl (by rw [nI_leI (by omega) (by omega)]; omega) ?_
      refine R_iload_n (n := 10) dX8_isRest_9 rfl rfl ?_
      cases b with
      | false =>
        refine R_if_eq_t (tgt := 59) dX8_isRest_10 rfl (by decide) ?_
        refine R_iconst (v := nI 0) (n := 60) dX8_isRest_59 rfl rfl ?_
        refine R_istore_n (n := 61) dX8_isRest_60 rfl (Nat.le_of_ble_eq_true rfl) (Nat.le_of_ble_eq_true rfl) ?_
        refine R_iinc (n := 64) dX8_isRest_61 rfl rfl (nI_1 _) (Nat.le_of_ble_eq_true rfl) ?_
        refine R_goto (tgt := 4) dX8_isRest_64 rfl ?_
        exact ih (c + 1) false (by omega) h2
      | true =>
        rw [ee, show 4 * (e / 4) + c = e - e % 4 + c by omega, Bool.true_and] at h2
        refine R_if_eq_f (n := 13) dX8_isRest_10 rfl rfl (by decide) ?_
        refine R_aload_n (n := 14) dX8_isRest_13 rfl rfl ?_
        refine gf_X8_37 (n := 17) dX8_isRest_14 rfl ?_
        refine R_iconst (v := nI 4) (n := 18) dX8_isRest_17 rfl rfl ?_
        refine R_iload_n (n := 19) dX8_isRest_18 rfl rfl ?_
        refine R_imul_n (n := 20) dX8_isRest_19 rfl ?_
        refine R_iload_n (n := 21) dX8_isRest_20 rfl rfl ?_
        refine R_iconst (v := nI 4) (n := 22) dX8_isRest_21 rfl rfl ?_
        refine R_irem_n (n := 23) dX8_isRest_22 (by omega) (by omega) (by omega) rfl ?_
        refine R_iadd_n (n := 24) dX8_isRest_23 rfl ?_
        refine R_iald_e (n := 25) sh_135 (rfl) (by omega) dX8_isRest_24 rfl ((hL1 _ (by omega)).1) ?_
        refine R_aload_n (n := 26) dX8_isRest_25 rfl rfl ?_
        refine gf_X8_37 (n := 29) dX8_isRest_26 rfl ?_
        refine R_iload_n (n := 30) dX8_isRest_29 rfl rfl ?_
        refine R_iald_e (n := 31) sh_135 (rfl) (by omega) dX8_isRest_30 rfl ((hL1 _ (by omega)).1) ?_
        refine R_icmp_lt (n := 34) (tgt := 59) dX8_isRest_31 rfl rfl (fun g1 => ?_) (fun g1 => ?_)
        · rw [nI_ltI (by omega) (by omega)] at g1
          rw [if_pos (Or.inl g1)] at h2
          refine R_iconst (v := nI 0) (n := 60) dX8_isRest_59 rfl rfl ?_
          refine R_istore_n (n := 61) dX8_isRest_60 rfl (Nat.le_of_ble_eq_true rfl) (Nat.le_of_ble_eq_true rfl) ?_
          refine R_iinc (n := 64) dX8_isRest_61 rfl rfl (nI_1 _) (Nat.le_of_ble_eq_true rfl) ?_
          refine R_goto (tgt := 4) dX8_isRest_64 rfl ?_
          exact ih (c + 1) false (by omega) h2
        · rw [nI_ltI (by omega) (by omega)] at g1
          refine R_aload_n (n := 35) dX8_isRest_34 rfl rfl ?_
          refine gf_X8_40 (n := 38) dX8_isRest_35 rfl ?_
          refine R_iload_n (n := 39) dX8_isRest_38 rfl rfl ?_
          refine R_iload_n (n := 40) dX8_isRest_39 rfl rfl ?_
          refine R_iconst (v := nI 4) (n := 41) dX8_isRest_40 rfl rfl ?_
          refine R_irem_n (n := 42) dX8_isRest_41 (by omega) (by omega) (by omega) rfl ?_
          refine R_isub_n (n := 43) dX8_isRest_42 ((by omega)) rfl ?_
          refine R_iload_n (n := 44) dX8_isRest_43 rfl rfl ?_
          refine R_iadd_n (n := 45) dX8_isRest_44 rfl ?_
          refine R_iald_e (n := 46) sh_136 (rfl) (by omega) dX8_isRest_45 rfl ((hL2 _ (by omega)).1) ?_
          refine R_aload_n (n := 47) dX8_isRest_46 rfl rfl ?_
          refine gf_X8_40 (n := 50) dX8_isRest_47 rfl ?_
          refine R_iload_n (n := 51) dX8_isRest_50 rfl rfl ?_
          refine R_iald_e (n := 52) sh_136 (rfl) (by omega) dX8_isRest_51 rfl ((hL2 _ (by omega)).1) ?_
          refine R_icmp_lt (n := 55) (tgt := 59) dX8_isRest_52 rfl rfl (fun g2 => ?_) (fun g2 => ?_)
          · rw [nI_ltI (by omega) (by omega)] at g2
            rw [if_pos (Or.inr g2)] at h2
            refine R_iconst (v := nI 0) (n := 60) dX8_isRest_59 rfl rfl ?_
            refine R_istore_n (n := 61) dX8_isRest_60 rfl (Nat.le_of_ble_eq_true rfl) (Nat.le_of_ble_eq_true rfl) ?_
            refine R_iinc (n := 64) dX8_isRest_61 rfl rfl (nI_1 _) (Nat.le_of_ble_eq_true rfl) ?_
            refine R_goto (tgt := 4) dX8_isRest_64 rfl ?_
            exact ih (c + 1) false (by omega) h2
          · rw [nI_ltI (by omega) (by omega)] at g2
            rw [if_neg (by omega)] at h2
            refine R_iconst (v := nI 1) (n := 56) dX8_isRest_55 rfl rfl ?_
            refine R_goto (tgt := 60) dX8_isRest_56 rfl ?_
            refine R_istore_n (n := 61) dX8_isRest_60 rfl (Nat.le_of_ble_eq_true rfl) (Nat.le_of_ble_eq_true rfl) ?_
            refine R_iinc (n := 64) dX8_isRest_61 rfl rfl (nI_1 _) (Nat.le_of_ble_eq_true rfl) ?_
            refine R_goto (tgt := 4) dX8_isRest_64 rfl ?_
            exact ih (c + 1) true (by omega) (by rw [Bool.true_and]; exact h2)
  exact loop 4 0 true rfl (Bool.true_and _)
end M4

