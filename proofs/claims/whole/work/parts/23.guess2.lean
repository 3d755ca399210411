section GV
variable {G : Gm} {l : Launch} {μ : Mem} {C : CF} {S : ST}
theorem ct_X2_isAtWith {v place s : Nat} (hQ : Qc μ C S) (hv : v < C.1) (hp : place < C.1) (hs : s < 64) : Ct G l 5 yX2_isAtWith cX2_isAtWith 7 (some .boolean) [.ref (G.2.2.1 122), .ref (G.2.2.1 3), .int (nI v), .int (nI place), .int (nI s)] μ (fun r μ' => r = some (.int (bi (isW C S v place s))) ∧ Sme Ptr μ μ') := by
  obtain ⟨hC, hS, hO, hP⟩ := hQ
  obtain ⟨o1, o2, o3, o4, o5, o6⟩ := id hO
  refine Ct.of 2 (by decide +kernel) rfl (Nat.le_of_ble_eq_true rfl) ?_
  show V G l RX2 cX2_isAtWith 7 _ false _ _ 0 [some (.ref _), some (.ref _), some (.int _), some (.int _), some (.int _), none, none] [] _
  refine R_aload_n (n := 1) dX2_isAtWith_0 rfl rfl ?_
  refine iv_X2_37 (n := 4) (ct_X1_newTrial) (by decide) dX2_isAtWith_1 rfl (Nat.le_of_ble_eq_true rfl) (fun r μ' hq => ?_)
  obtain ⟨rfl, c1, c2⟩ := hq
  have hT := cst_cpy o2 o1 (by omega) hS c1
  obtain ⟨t1, t2, t3, t4, t5, t6, t7⟩ := id hT
  refine R_astore (n := 6) dX2_isAtWith_4 rfl (Nat.le_of_ble_eq_true rfl) (Nat.le_of_ble_eq_true rfl) ?_
  refine R_aload (n := 8) dX2_isAtWith_6 rfl rfl ?_
  refine ge_X2_95 (n := 11) stB_12 dX2_isAtWith_8 rfl (t7) ?_
  refine R_istore (n := 13) dX2_isAtWith_11 rfl (Nat.le_of_ble_eq_true rfl) (Nat.le_of_ble_eq_true rfl) ?_
  have loop : ∀ (f j : Nat) (μ1 : Mem), j + f = C.2.1 → sPsd S ≤ j → (∀ i, i < C.2.1 → μ1.1 16 i = nI (if i < j then sLaw (slS C S s) i else sLaw S i)) → Sme (fun i _ => i = 16) μ' μ1 → V G l RX2 cX2_isAtWith 7 5 false (some .boolean) (fun r μ' => r = some (.int (bi (isW C S v place s))) ∧ Sme Ptr μ μ') 13 [some (.ref (G.2.2.1 122)), some (.ref (G.2.2.1 3)), some (.int (nI v)), some (.int (nI place)), some (.int (nI s)), some (.ref (G.2.2.1 12)), some (.int (nI j))] [] μ1 := by
    intro f
    induction f with
    | zero =>
      intro j μ1 h1 h2 h3 h4
      have h5 : Sme Ptr μ μ1 := c2.tr (h4.mono (fun i j h => by omega))
      have hC1 := hC.kept h5 (by omega) (by omega) (fun j => by omega) (fun j => by omega)
      have hcL := hC1.1
      have hT1 : CSt μ1 12 C.1 C (slS C S s) := by
        refine ⟨fun p hp => (h4.1 _ _ (by omega)).trans (t1 p hp), fun p hp => (h4.1 _ _ (by omega)).trans (t2 p hp), fun p hp => (h4.1 _ _ (by omega)).trans (t3 p hp), fun p hp => ?_, fun p hp => (h4.1 _ _ (by omega)).trans (t5 p hp), (h4.1 _ _ (by omega)).trans t6, (h4.1 _ _ (by omega)).trans t7⟩
        rw [h3 p hp, if_pos (by omega)]
      have hO1 : Ok C C.1 (slS C S s) := by
        refine ⟨o1, o2, o3, o4, fun i hi => ?_, o6⟩
        show (if _ then 0 else _) < 4
        split
        · omega
        · exact o5 i hi
      have hO2 := ok_gos (C.2.1 - sPsd S) _ hO1 (by show sPsd S + (C.2.1 - sPsd S) ≤ C.2.1; omega)
      refine R_iload (n := 15) dX2_isAtWith_13 rfl rfl ?_
      refine R_aload_n (n := 16) dX2_isAtWith_15 rfl rfl ?_
      refine ge_X2_73 (n := 19) dX2_isAtWith_16 rfl (hcL) ?_
      refine R_icmp_ge_t (tgt := 54) dX2_isAtWith_19 rfl (by rw [nI_leI (by omega) (by omega)]; omega) ?_
      refine R_aload_n (n := 55) dX2_isAtWith_54 rfl rfl ?_
      refine R_aload (n := 57) dX2_isAtWith_55 rfl rfl ?_
      refine R_aload_n (n := 58) dX2_isAtWith_57 rfl rfl ?_
      refine ge_X2_73 (n := 61) dX2_isAtWith_58 rfl (hcL) ?_
      refine iv_X2_50 (n := 64) (ct_X1_goOnTo stB_12 (by omega) hC1 hT1 hO1 (Nat.le_refl _) o6) (by decide) dX2_isAtWith_61 rfl (Nat.le_of_ble_eq_true rfl) (fun r μ' hq => ?_)
      obtain ⟨rfl, g1, g2⟩ := hq
      refine R_aload (n := 66) dX2_isAtWith_64 rfl rfl ?_
      refine R_iload_n (n := 67) dX2_isAtWith_66 rfl rfl ?_
      refine R_iload_n (n := 68) dX2_isAtWith_67 rfl rfl ?_
      refine iv_X2_98 (n := 71) (ct_X5_isAt (p := place) stB_12 o1 g1.2.2.2.2.2.1 g1.1 (by omega)) stB_12 (by decide) dX2_isAtWith_68 rfl (Nat.le_of_ble_eq_true rfl) (fun r μ' hq => ?_)
      obtain ⟨rfl, hq⟩ := hq
      have hq := hq.symm
      subst hq
      have hr : sRow (bas C (slS C S s)) place < C.1 := hO2.2.2.2.1 place hp
      refine R_iret dX2_isAtWith_71 rfl (nar_bi _) ⟨?_, h5.tr (g2.mono (fun i j h => by omega))⟩
      refine congrArg (fun b => some (Value.int (bi b))) ?_
      rw [isW]
      by_cases e : sRow (bas C (slS C S s)) place = v
      · rw [decide_eq_true e]
        exact decide_eq_true ⟨hp, congrArg nI e⟩
      · rw [decide_eq_false e]
        exact decide_eq_false (fun z => e ((nI_eq (by omega) (by omega)).mp z.2))
    | succ f ih =>
      intro j μ1 h1 h2 h3 h4
      have h5 : Sme Ptr μ μ1 := c2.tr (h4.mono (fun i j h => by omega))
      have hcL := (hC.kept h5 (by omega) (by omega) (fun j => by omega) (fun j => by omega)).1
      have hp6 : μ1.1 12 6 = nI (sPsd S) := (h4.1 _ _ (by omega)).trans t7
      refine R_iload (n := 15) dX2_isAtWith_13 rfl rfl ?_
      refine R_aload_n (n := 16) dX2_isAtWith_15 rfl rfl ?_
      refine ge_X2_73 (n := 19) dX2_isAtWith_16 rfl (hcL) ?_
      refine R_icmp_ge_f (n := 22) dX2_isAtWith_19 rfl rfl (by rw [nI_leI (by omega) (by omega)]; omega) ?_
      refine R_iload (n := 24) dX2_isAtWith_22 rfl rfl ?_
      refine R_iload (n := 26) dX2_isAtWith_24 rfl rfl ?_
      refine R_aload (n := 28) dX2_isAtWith_26 rfl rfl ?_
      refine ge_X2_95 (n := 31) stB_12 dX2_isAtWith_28 rfl (hp6) ?_
      refine R_isub_n (n := 32) dX2_isAtWith_31 (h2) rfl ?_
      refine R_ishr (n := 33) dX2_isAtWith_32 rfl ?_
      refine R_iconst (v := nI 1) (n := 34) dX2_isAtWith_33 rfl rfl ?_
      refine R_iand (n := 35) dX2_isAtWith_34 rfl ?_
      rw [bit_at s hs (j - sPsd S) (by omega)]
      refine R_iconst (v := nI 1) (n := 36) dX2_isAtWith_35 rfl rfl ?_
      by_cases e : tb s (j - sPsd S) = 1
      · rw [e]
        refine R_icmp_ne_f (n := 39) dX2_isAtWith_36 rfl rfl (rfl) ?_
        refine R_aload (n := 41) dX2_isAtWith_39 rfl rfl ?_
        refine gf_X2_41 (n := 44) stB_12 dX2_isAtWith_41 rfl ?_
        refine R_iload (n := 46) dX2_isAtWith_44 rfl rfl ?_
        refine R_iconst (v := nI 0) (n := 47) dX2_isAtWith_46 rfl rfl ?_
        refine R_iast (n := 48) stB_12.2.2.2.2.1 (rfl) (by omega) dX2_isAtWith_47 rfl ?_
        refine R_iinc (n := 51) dX2_isAtWith_48 rfl rfl (nI_1 _) (Nat.le_of_ble_eq_true rfl) ?_
        refine R_goto (tgt := 13) dX2_isAtWith_51 rfl ?_
        refine ih (j + 1) _ (by omega) (by omega) (fun i hi => ?_) (h4.sti rfl)
        rw [sti_1]
        by_cases e2 : i = j
        · rw [if_pos ⟨rfl, e2⟩, if_pos (by omega), e2]
          show nI 0 = nI (if _ then 0 else _)
          rw [if_pos ⟨h2, e⟩]
        · rw [if_neg (fun z => e2 z.2), h3 i hi]
          by_cases e3 : i < j
          · rw [if_pos e3, if_pos (by omega)]
          · rw [if_neg e3, if_neg (by omega)]
      · have e0 : tb s (j - sPsd S) = 0 := by have := tb_le s (j - sPsd S); omega
        rw [e0]
        refine R_icmp_ne_t (tgt := 48) dX2_isAtWith_36 rfl (by decide) ?_
        refine R_iinc (n := 51) dX2_isAtWith_48 rfl rfl (nI_1 _) (Nat.le_of_ble_eq_true rfl) ?_
        refine R_goto (tgt := 13) dX2_isAtWith_51 rfl ?_
        refine ih (j + 1) _ (by omega) (by omega) (fun i hi => ?_) h4
        rw [h3 i hi]
        by_cases e3 : i < j
        · rw [if_pos e3, if_pos (by omega)]
        · rw [if_neg e3]
          by_cases e2 : i = j
          · rw [if_pos (by omega), e2]
            show _ = nI (if _ then 0 else _)
            rw [if_neg (fun z => e z.2)]
          · rw [if_neg (by omega)]
  refine loop (C.2.1 - sPsd S) (sPsd S) _ (by omega) (Nat.le_refl _) (fun i hi => ?_) (Sme.rf _ _)
  by_cases e3 : i < sPsd S
  · rw [if_pos e3, t4 i hi]
    show _ = nI (if _ then 0 else _)
    rw [if_neg (fun z => absurd z.1 (by omega))]
  · rw [if_neg e3]; exact t4 i hi
theorem ct_X2_asleepAbove {v place x : Nat} (hQ : Qc μ C S) (hv : v < C.1) (hp : place < C.1) (hx : x ≤ 10) : Ct G l 6 yX2_asleepAbove cX2_asleepAbove 9 (some .int) [.ref (G.2.2.1 122), .ref (G.2.2.1 3), .int (nI v), .int (nI place), .int (nI x)] μ (fun r μ' => r = some (.int (asL (isW C S v place) x (C.2.1 - sPsd S) (2 ^ (C.2.1 - sPsd S)) 0 (nI 0))) ∧ Sme Ptr μ μ') := by
  obtain ⟨o1, o2, o3, o4, o5, o6⟩ := hQ.2.2.1
  have h64 : ∀ n, n < 6 → 2 ^ n < 64 := by decide +kernel
  have h2n := h64 (C.2.1 - sPsd S) (by omega)
  refine Ct.of 4 (by decide +kernel) rfl (Nat.le_of_ble_eq_true rfl) ?_
  show V G l RX2 cX2_asleepAbove 9 _ false _ _ 0 [some (.ref _), some (.ref _), some (.int _), some (.int _), some (.int _), none, none, none, none] [] _
  refine R_aload_n (n := 1) dX2_asleepAbove_0 rfl rfl ?_
  refine iv_X2_80 (n := 4) (ct_X1_locksLeft hQ.1.1 hQ.2.1.2.2.2.2.2.2 o6) (by decide) dX2_asleepAbove_1 rfl (Nat.le_of_ble_eq_true rfl) (fun r μ' hq => ?_)
  obtain ⟨rfl, hq⟩ := hq
  have hq := hq.symm
  subst hq
  refine R_istore (n := 6) dX2_asleepAbove_4 rfl (Nat.le_of_ble_eq_true rfl) (Nat.le_of_ble_eq_true rfl) ?_
  refine R_iconst (v := nI 0) (n := 7) dX2_asleepAbove_6 rfl rfl ?_
  refine R_istore (n := 9) dX2_asleepAbove_7 rfl (Nat.le_of_ble_eq_true rfl) (Nat.le_of_ble_eq_true rfl) ?_
  refine R_iconst (v := nI 0) (n := 10) dX2_asleepAbove_9 rfl rfl ?_
  refine R_istore (n := 12) dX2_asleepAbove_10 rfl (Nat.le_of_ble_eq_true rfl) (Nat.le_of_ble_eq_true rfl) ?_
  generalize hlf : C.2.1 - sPsd S = lf at *
  have loop : ∀ (f s : Nat) (acc : Int32) (μ1 : Mem) (j8 : Option Value), s + f = 2 ^ lf → Sme Ptr μ μ1 → V G l RX2 cX2_asleepAbove 9 6 false (some .int) (fun r μ' => r = some (.int (asL (isW C S v place) x lf f s acc)) ∧ Sme Ptr μ μ') 12 [some (.ref (G.2.2.1 122)), some (.ref (G.2.2.1 3)), some (.int (nI v)), some (.int (nI place)), some (.int (nI x)), some (.int (nI lf)), some (.int acc), some (.int (nI s)), j8] [] μ1 := by
    intro f
    induction f with
    | zero =>
      intro s acc μ1 j8 h1 h2
      refine R_iload (n := 14) dX2_asleepAbove_12 rfl rfl ?_
      refine R_iconst (v := nI 1) (n := 15) dX2_asleepAbove_14 rfl rfl ?_
      refine R_iload (n := 17) dX2_asleepAbove_15 rfl rfl ?_
      refine R_ishl (n := 18) dX2_asleepAbove_17 rfl ?_
      rw [show nI 1 <<< (nI lf &&& 31) = nI (2 ^ lf) from bt_pow _ (by omega)]
      refine R_icmp_ge_t (tgt := 72) dX2_asleepAbove_18 rfl (by rw [nI_leI (by omega) (by omega)]; omega) ?_
      refine R_iload (n := 74) dX2_asleepAbove_72 rfl rfl ?_
      refine R_iret dX2_asleepAbove_74 rfl (rfl) (⟨rfl, h2⟩)
    | succ f ih =>
      intro s acc μ1 j8 h1 h2
      rw [asL]
      refine R_iload (n := 14) dX2_asleepAbove_12 rfl rfl ?_
      refine R_iconst (v := nI 1) (n := 15) dX2_asleepAbove_14 rfl rfl ?_
      refine R_iload (n := 17) dX2_asleepAbove_15 rfl rfl ?_
      refine R_ishl (n := 18) dX2_asleepAbove_17 rfl ?_
      rw [show nI 1 <<< (nI lf &&& 31) = nI (2 ^ lf) from bt_pow _ (by omega)]
      refine R_icmp_ge_f (n := 21) dX2_asleepAbove_18 rfl rfl (by rw [nI_leI (by omega) (by omega)]; omega) ?_
      refine R_aload_n (n := 22) dX2_asleepAbove_21 rfl rfl ?_
      refine R_aload_n (n := 23) dX2_asleepAbove_22 rfl rfl ?_
      refine R_iload_n (n := 24) dX2_asleepAbove_23 rfl rfl ?_
      refine R_iload_n (n := 25) dX2_asleepAbove_24 rfl rfl ?_
      refine R_iload (n := 27) dX2_asleepAbove_25 rfl rfl ?_
      refine iv_X2_83 (n := 30) (ct_X2_isAtWith (hQ.kept h2 (fun i j z1 z2 => by omega)) hv hp (by omega)) (by decide) dX2_asleepAbove_27 rfl (Nat.le_of_ble_eq_true rfl) (fun r μ' hq => ?_)
      obtain ⟨rfl, s1⟩ := hq
      have h3 := h2.tr s1
      cases hw : isW C S v place s with
      | false =>
        rw [if_neg (by decide)]
        refine R_if_eq_t (tgt := 66) dX2_asleepAbove_30 rfl (by decide) ?_
        refine R_iinc (n := 69) dX2_asleepAbove_66 rfl rfl (nI_1 _) (Nat.le_of_ble_eq_true rfl) ?_
        refine R_goto (tgt := 12) dX2_asleepAbove_69 rfl ?_
        exact ih (s + 1) acc _ _ (by omega) h3
      | true =>
        rw [if_pos rfl]
        have hb := bc_left lf (by omega) s (by omega)
        refine R_if_eq_f (n := 33) dX2_asleepAbove_30 rfl rfl (by decide) ?_
        refine R_iload (n := 35) dX2_asleepAbove_33 rfl rfl ?_
        refine iv_X2_86 (n := 38) (ct_J6_bitCount (by omega)) (by decide) dX2_asleepAbove_35 rfl (Nat.le_of_ble_eq_true rfl) (fun r μ' hq => ?_)
        obtain ⟨rfl, hq⟩ := hq
        have hq := hq.symm
        subst hq
        refine R_istore (n := 40) dX2_asleepAbove_38 rfl (Nat.le_of_ble_eq_true rfl) (Nat.le_of_ble_eq_true rfl) ?_
        refine R_iload (n := 42) dX2_asleepAbove_40 rfl rfl ?_
        refine R_iload (n := 44) dX2_asleepAbove_42 rfl rfl ?_
        refine R_iload (n := 46) dX2_asleepAbove_44 rfl rfl ?_
        refine iv_X2_91 (n := 49) (ct_X7_power (nI x) (by omega)) (by decide) dX2_asleepAbove_46 rfl (Nat.le_of_ble_eq_true rfl) (fun r μ' hq => ?_)
        obtain ⟨rfl, hq⟩ := hq
        have hq := hq.symm
        subst hq
        refine R_bipush (v := nI 10) (n := 51) dX2_asleepAbove_49 rfl rfl ?_
        refine R_iload (n := 53) dX2_asleepAbove_51 rfl rfl ?_
        refine R_isub_n (n := 54) dX2_asleepAbove_53 (hx) rfl ?_
        refine R_iload (n := 56) dX2_asleepAbove_54 rfl rfl ?_
        refine R_iload (n := 58) dX2_asleepAbove_56 rfl rfl ?_
        refine R_isub_n (n := 59) dX2_asleepAbove_58 (hb) rfl ?_
        refine iv_X2_91 (n := 62) (ct_X7_power (nI (10 - x)) (by omega)) (by decide) dX2_asleepAbove_59 rfl (Nat.le_of_ble_eq_true rfl) (fun r μ' hq => ?_)
        obtain ⟨rfl, hq⟩ := hq
        have hq := hq.symm
        subst hq
        refine R_imul (n := 63) dX2_asleepAbove_62 rfl ?_
        refine R_iadd (n := 64) dX2_asleepAbove_63 rfl ?_
        refine R_istore (n := 66) dX2_asleepAbove_64 rfl (Nat.le_of_ble_eq_true rfl) (Nat.le_of_ble_eq_true rfl) ?_
        refine R_iinc (n := 69) dX2_asleepAbove_66 rfl rfl (nI_1 _) (Nat.le_of_ble_eq_true rfl) ?_
        refine R_goto (tgt := 12) dX2_asleepAbove_69 rfl ?_
        exact ih (s + 1) _ _ _ (by omega) h3
  exact loop (2 ^ lf) 0 (nI 0) μ _ (by omega) (Sme.rf _ _)
theorem ct_X2_isFirstIfAllGive {v s : Nat} (hQ : Qc μ C S) (hv : v < C.1) (hs : s < 64) : Ct G l 5 yX2_isFirstIfAllGive cX2_isFirstIfAllGive 6 (some .boolean) [.ref (G.2.2.1 122), .ref (G.2.2.1 3), .int (nI v), .int (nI s)] μ (fun r μ' => r = some (.int (bi (fgF C S v s))) ∧ Sme Ptr μ μ') := by
  obtain ⟨hC, hS, hO, hP⟩ := hQ
  obtain ⟨o1, o2, o3, o4, o5, o6⟩ := id hO
  refine Ct.of 2 (by decide +kernel) rfl (Nat.le_of_ble_eq_true rfl) ?_
  show V G l RX2 cX2_isFirstIfAllGive 6 _ false _ _ 0 [some (.ref _), some (.ref _), some (.int _), some (.int _), none, none] [] _
  refine R_aload_n (n := 1) dX2_isFirstIfAllGive_0 rfl rfl ?_
  refine iv_X2_37 (n := 4) (ct_X1_newTrial) (by decide) dX2_isFirstIfAllGive_1 rfl (Nat.le_of_ble_eq_true rfl) (fun r μ' hq => ?_)
  obtain ⟨rfl, c1, c2⟩ := hq
  have hT := cst_cpy o2 o1 (by omega) hS c1
  have t7 := hT.2.2.2.2.2.2
  refine R_astore (n := 6) dX2_isFirstIfAllGive_4 rfl (Nat.le_of_ble_eq_true rfl) (Nat.le_of_ble_eq_true rfl) ?_
  refine R_aload (n := 8) dX2_isFirstIfAllGive_6 rfl rfl ?_
  refine ge_X2_95 (n := 11) stB_12 dX2_isFirstIfAllGive_8 rfl (t7) ?_
  refine R_istore (n := 13) dX2_isFirstIfAllGive_11 rfl (Nat.le_of_ble_eq_true rfl) (Nat.le_of_ble_eq_true rfl) ?_
  have loop : ∀ (f j : Nat) (T : ST) (μ1 : Mem), j + f = C.2.1 → CSt μ1 12 C.1 C T → Ok C C.1 T → sPsd T = sPsd S → agL C s f j T = agL C s (C.2.1 - sPsd S) (sPsd S) S → Sme Ptr μ μ1 → V G l RX2 cX2_isFirstIfAllGive 6 5 false (some .boolean) (fun r μ' => r = some (.int (bi (fgF C S v s))) ∧ Sme Ptr μ μ') 13 [some (.ref (G.2.2.1 122)), some (.ref (G.2.2.1 3)), some (.int (nI v)), some (.int (nI s)), some (.ref (G.2.2.1 12)), some (.int (nI j))] [] μ1 := by
    intro f
    induction f with
    | zero =>
      intro j T μ1 h1 h2 h3 h4 h5 h6
      have hC1 := hC.kept h6 (by omega) (by omega) (fun j => by omega) (fun j => by omega)
      have hcL := hC1.1
      refine R_iload (n := 15) dX2_isFirstIfAllGive_13 rfl rfl ?_
      refine R_aload_n (n := 16) dX2_isFirstIfAllGive_15 rfl rfl ?_
      refine ge_X2_73 (n := 19) dX2_isFirstIfAllGive_16 rfl (hcL) ?_
      refine R_icmp_ge_t (tgt := 38) dX2_isFirstIfAllGive_19 rfl (by rw [nI_leI (by omega) (by omega)]; omega) ?_
      refine R_aload_n (n := 39) dX2_isFirstIfAllGive_38 rfl rfl ?_
      refine R_aload (n := 41) dX2_isFirstIfAllGive_39 rfl rfl ?_
      refine R_aload_n (n := 42) dX2_isFirstIfAllGive_41 rfl rfl ?_
      refine ge_X2_73 (n := 45) dX2_isFirstIfAllGive_42 rfl (hcL) ?_
      refine iv_X2_50 (n := 48) (ct_X1_goOnTo stB_12 (by omega) hC1 h2 h3 (Nat.le_refl _) (by omega)) (by decide) dX2_isFirstIfAllGive_45 rfl (Nat.le_of_ble_eq_true rfl) (fun r μ' hq => ?_)
      obtain ⟨rfl, g1, g2⟩ := hq
      have hO2 := ok_gos (C.2.1 - sPsd T) _ h3 (by omega)
      refine R_aload (n := 50) dX2_isFirstIfAllGive_48 rfl rfl ?_
      refine R_iconst (v := nI 0) (n := 51) dX2_isFirstIfAllGive_50 rfl rfl ?_
      refine R_iload_n (n := 52) dX2_isFirstIfAllGive_51 rfl rfl ?_
      refine iv_X2_98 (n := 55) (ct_X5_isAt (p := 0) stB_12 o1 g1.2.2.2.2.2.1 g1.1 (by omega)) stB_12 (by decide) dX2_isFirstIfAllGive_52 rfl (Nat.le_of_ble_eq_true rfl) (fun r μ' hq => ?_)
      obtain ⟨rfl, hq⟩ := hq
      have hq := hq.symm
      subst hq
      have hr : sRow (bas C T) 0 < C.1 := hO2.2.2.2.1 0 (by omega)
      refine R_iret dX2_isFirstIfAllGive_55 rfl (nar_bi _) ⟨?_, h6.tr (g2.mono (fun i j h => by omega))⟩
      refine congrArg (fun b => some (Value.int (bi b))) ?_
      rw [fgF, ← h5]
      show decide (0 < C.1 ∧ nI (sRow (bas C T) 0) = nI v) = decide (sRow (bas C T) 0 = v)
      by_cases e : sRow (bas C T) 0 = v
      · rw [decide_eq_true e]
        exact decide_eq_true ⟨by omega, congrArg nI e⟩
      · rw [decide_eq_false e]
        exact decide_eq_false (fun z => e ((nI_eq (by omega) (by omega)).mp z.2))
    | succ f ih =>
      intro j T μ1 h1 h2 h3 h4 h5 h6
      have hC1 := hC.kept h6 (by omega) (by omega) (fun j => by omega) (fun j => by omega)
      have hcL := hC1.1
      refine R_iload (n := 15) dX2_isFirstIfAllGive_13 rfl rfl ?_
      refine R_aload_n (n := 16) dX2_isFirstIfAllGive_15 rfl rfl ?_
      refine ge_X2_73 (n := 19) dX2_isFirstIfAllGive_16 rfl (hcL) ?_
      refine R_icmp_ge_f (n := 22) dX2_isFirstIfAllGive_19 rfl rfl (by rw [nI_leI (by omega) (by omega)]; omega) ?_
      refine R_aload_n (n := 23) dX2_isFirstIfAllGive_22 rfl rfl ?_
      refine R_aload_n (n := 24) dX2_isFirstIfAllGive_23 rfl rfl ?_
      refine R_aload (n := 26) dX2_isFirstIfAllGive_24 rfl rfl ?_
      refine R_iload (n := 28) dX2_isFirstIfAllGive_26 rfl rfl ?_
      refine R_iload_n (n := 29) dX2_isFirstIfAllGive_28 rfl rfl ?_
      refine iv_X2_46 (n := 32) (ct_X2_addGivers hC1 h2 o1 (by omega) hs) (by decide) dX2_isFirstIfAllGive_29 rfl (Nat.le_of_ble_eq_true rfl) (fun r μ' hq => ?_)
      obtain ⟨rfl, a1, a2⟩ := hq
      refine R_iinc (n := 35) dX2_isFirstIfAllGive_32 rfl rfl (nI_1 _) (Nat.le_of_ble_eq_true rfl) ?_
      refine R_goto (tgt := 13) dX2_isFirstIfAllGive_35 rfl ?_
      exact ih (j + 1) _ _ (by omega) a1 (ok_addBits j s C.1 h3) ((addBits_eq T j s C.1).2.2.1.trans h4) h5 (h6.tr (a2.mono (fun i j h => by omega)))
  exact loop (C.2.1 - sPsd S) (sPsd S) S _ (by omega) hT hO rfl rfl c2
end GV

