/-! THE MODEL's questions that walk one trial -/
section M10
variable {G : Gm} {l : Launch} {μ : Mem} {σ : GS}
theorem MI.wZ (h : MI μ σ) (z : Int64) : MI (stl μ 125 z) (setZ σ z) := ⟨h.1, h.2.1, h.2.2.1, h.2.2.2.1, h.2.2.2.2.1, by rw [stl_2, if_pos rfl]; rfl⟩
theorem MI.qz {z : Int64} (h : MI μ (setZ σ z)) (w : WF σ) : QM μ (gC σ) (gS σ) := ⟨h.2.1, h.2.2.1, w.1.1, w.1.2.1⟩
theorem SmM.stl (μ : Mem) (z : Int64) : SmM μ (stl μ 125 z) := ⟨fun _ _ _ => rfl, by rw [stl_2, if_neg (by decide)]⟩
theorem ct_X8_seed (h : MI μ σ) (v : Int64) : Ct G l 1 yX8_seed cX8_seed 5 (some .long) [.ref (G.2.2.1 125), .long v] μ (fun r μ' => r = some (.long (gZ σ)) ∧ MI μ' (setZ σ v) ∧ SmM μ μ') := by
  refine Ct.ofLm (lg := true) (lo := [some (.ref (G.2.2.1 125)), some (.long v), none, none, none]) (by decide +kernel) (lm_ent (Nat.le_of_ble_eq_true rfl) (fun i w hi => ?_)) ?_
  · match i, hi with
    | 0, hi => cases hi; exact List.mem_cons_self
    | 1, hi => cases hi; exact List.mem_cons_of_mem _ List.mem_cons_self
    | 2, hi => cases hi
    | 3, hi => cases hi
    | 4, hi => cases hi
    | i + 5, hi => simp at hi
  show V G l RX8 cX8_seed 5 1 true (some .long) _ 0 [some (.ref (G.2.2.1 125)), some (.long v), none, none, none] [] μ
  refine R_aload_n (n := 1) dX8_seed_0 rfl rfl ?_
  refine gf_X8_187 (n := 4) dX8_seed_1 rfl ?_
  refine R_lstore_n (n := 5) dX8_seed_4 rfl (Nat.le_of_ble_eq_true rfl) (Nat.le_of_ble_eq_true rfl) (fun i w hi => ?_) ?_
  · match i, hi with
    | 0, hi => exact ⟨by decide, by decide, by decide⟩
    | 1, hi => exact ⟨by decide, by decide, by decide⟩
    | 2, hi => cases hi
    | 3, hi => cases hi
    | 4, hi => cases hi
    | i + 5, hi => simp at hi
  refine R_aload_n (n := 6) dX8_seed_5 rfl rfl ?_
  refine R_lload_n (n := 7) dX8_seed_6 rfl rfl ?_
  refine pf_X8_187 (n := 10) dX8_seed_7 rfl ?_
  refine R_lload_n (n := 11) dX8_seed_10 rfl rfl ?_
  rw [h.2.2.2.2.2]
  refine R_lret dX8_seed_11 rfl (⟨rfl, h.wZ v, SmM.stl _ _⟩)
theorem ct_X8_basin (h : MI μ σ) (w : WF σ) : Ct G l 5 yX8_basin cX8_basin 1 (some .int) [.ref (G.2.2.1 125)] μ (fun r μ' => r = some (.int (aBasin σ)) ∧ Sme Qrm μ μ') := by
  obtain ⟨o1, o2, o3, o4, o5, o6⟩ := id w.1.1
  refine Ct.of 0 (by decide +kernel) rfl (Nat.le_of_ble_eq_true rfl) ?_
  show V G l RX8 cX8_basin 1 _ false _ _ 0 [some (.ref _)] [] _
  refine R_aload_n (n := 1) dX8_basin_0 rfl rfl ?_
  refine iv_X8_133 (n := 4) (ct_X8_layBasin (h.q w)) (by decide) dX8_basin_1 rfl (Nat.le_of_ble_eq_true rfl) (fun r μ' hq => ?_)
  obtain ⟨rfl, g1, g2, g3⟩ := hq
  have hM1 := h.2.1.kept g3 (by omega) (by omega) (fun j => by omega) (fun j => by omega)
  refine R_aload_n (n := 5) dX8_basin_4 rfl rfl ?_
  refine R_iconst (v := nI 1) (n := 6) dX8_basin_5 rfl rfl ?_
  refine R_aload_n (n := 7) dX8_basin_6 rfl rfl ?_
  refine ge_X8_83 (n := 10) dX8_basin_7 rfl (hM1.2.1) ?_
  refine iv_X8_121 (n := 13) (ct_X8_figuresOf (lv := 1) (by omega) o1 g1.1) (by decide) dX8_basin_10 rfl (Nat.le_of_ble_eq_true rfl) (fun r μ' hq => ?_)
  obtain ⟨rfl, hq⟩ := hq
  have hq := hq.symm
  subst hq
  refine R_iret dX8_basin_13 rfl (rfl) (⟨rfl, g3.qm⟩)
theorem ct_X8_hour (h : MI μ σ) (w : WF σ) (x : Int32) : Ct G l 5 yX8_hour cX8_hour 2 (some .int) [.ref (G.2.2.1 125), .int x] μ (fun r μ' => r = some (.int (aHour σ x)) ∧ Sme Qrm μ μ') := by
  obtain ⟨o1, o2, o3, o4, o5, o6⟩ := id w.1.1
  refine Ct.of 0 (by decide +kernel) rfl (Nat.le_of_ble_eq_true rfl) ?_
  show V G l RX8 cX8_hour 2 _ false _ _ 0 [some (.ref _), some (.int _)] [] _
  refine R_aload_n (n := 1) dX8_hour_0 rfl rfl ?_
  refine R_iload_n (n := 2) dX8_hour_1 rfl rfl ?_
  refine iv_X8_89 (n := 5) (ct_X8_isBarge x h.2.1.2.1 (by omega)) (by decide) dX8_hour_2 rfl (Nat.le_of_ble_eq_true rfl) (fun r μ' hq => ?_)
  obtain ⟨rfl, hq⟩ := hq
  have hq := hq.symm
  subst hq
  cases hx : inR x (gC σ).1 with
  | false =>
    refine R_if_ne_f (n := 8) dX8_hour_5 rfl rfl (by decide) ?_
    refine R_iconst (v := -1) (n := 9) dX8_hour_8 rfl rfl ?_
    refine R_iret dX8_hour_9 rfl (rfl) (⟨by rw [aHour, hx]; rfl, Sme.rf _ _⟩)
  | true =>
    obtain ⟨hxl, hxe⟩ := inR_cl (by omega) hx
    rw [aHour, hx, if_pos rfl]
    clear hx
    generalize x.toNatClampNeg = j at *
    subst hxe
    refine R_if_ne_t (tgt := 10) dX8_hour_5 rfl (by decide) ?_
    refine R_aload_n (n := 11) dX8_hour_10 rfl rfl ?_
    refine iv_X8_133 (n := 14) (ct_X8_layBasin (h.q w)) (by decide) dX8_hour_11 rfl (Nat.le_of_ble_eq_true rfl) (fun r μ' hq => ?_)
    obtain ⟨rfl, g1, g2, g3⟩ := hq
    refine R_aload_n (n := 15) dX8_hour_14 rfl rfl ?_
    refine gf_X8_16 (n := 18) dX8_hour_15 rfl ?_
    refine R_bipush (v := nI 60) (n := 20) dX8_hour_18 rfl rfl ?_
    refine R_iload_n (n := 21) dX8_hour_20 rfl rfl ?_
    refine R_iadd_n (n := 22) dX8_hour_21 rfl ?_
    refine R_iald (n := 23) sh_128 (rfl) (by omega) dX8_hour_22 rfl ?_
    refine R_iret dX8_hour_23 rfl rfl ⟨congrArg (fun z => some (Value.int z)) (g1.2.1 _ hxl), g3.qm⟩
theorem ct_X8_mates (h : MI μ σ) (w : WF σ) (x : Int32) : Ct G l 5 yX8_mates cX8_mates 2 (some .int) [.ref (G.2.2.1 125), .int x] μ (fun r μ' => r = some (.int (aMates σ x)) ∧ Sme Qrm μ μ') := by
  obtain ⟨o1, o2, o3, o4, o5, o6⟩ := id w.1.1
  refine Ct.of 0 (by decide +kernel) rfl (Nat.le_of_ble_eq_true rfl) ?_
  show V G l RX8 cX8_mates 2 _ false _ _ 0 [some (.ref _), some (.int _)] [] _
  refine R_aload_n (n := 1) dX8_mates_0 rfl rfl ?_
  refine R_iload_n (n := 2) dX8_mates_1 rfl rfl ?_
  refine iv_X8_89 (n := 5) (ct_X8_isBarge x h.2.1.2.1 (by omega)) (by decide) dX8_mates_2 rfl (Nat.le_of_ble_eq_true rfl) (fun r μ' hq => ?_)
  obtain ⟨rfl, hq⟩ := hq
  have hq := hq.symm
  subst hq
  cases hx : inR x (gC σ).1 with
  | false =>
    refine R_if_ne_f (n := 8) dX8_mates_5 rfl rfl (by decide) ?_
    refine R_iconst (v := -1) (n := 9) dX8_mates_8 rfl rfl ?_
    refine R_iret dX8_mates_9 rfl (rfl) (⟨by rw [aMates, hx]; rfl, Sme.rf _ _⟩)
  | true =>
    obtain ⟨hxl, hxe⟩ := inR_cl (by omega) hx
    rw [aMates, hx, if_pos rfl]
    clear hx
    generalize x.toNatClampNeg = j at *
    subst hxe
    refine R_if_ne_t (tgt := 10) dX8_mates_5 rfl (by decide) ?_
    refine R_aload_n (n := 11) dX8_mates_10 rfl rfl ?_
    refine iv_X8_133 (n := 14) (ct_X8_layBasin (h.q w)) (by decide) dX8_mates_11 rfl (Nat.le_of_ble_eq_true rfl) (fun r μ' hq => ?_)
    obtain ⟨rfl, g1, g2, g3⟩ := hq
    refine R_aload_n (n := 15) dX8_mates_14 rfl rfl ?_
    refine gf_X8_28 (n := 18) dX8_mates_15 rfl ?_
    refine R_iload_n (n := 19) dX8_mates_18 rfl rfl ?_
    refine R_iald (n := 20) sh_132 (rfl) (by omega) dX8_mates_19 rfl ?_
    refine R_iret dX8_mates_20 rfl rfl ⟨congrArg (fun z => some (Value.int z)) ((g2 j (by omega)).trans (gosW_mts _ _ _ w.1.2.1)), g3.qm⟩
theorem ct_X8_gains (h : MI μ σ) (w : WF σ) (x : Int32) : Ct G l 3 yX8_gains cX8_gains 5 (some .int) [.ref (G.2.2.1 125), .int x] μ (fun r μ' => r = some (.int (aGains σ x)) ∧ Sme Qrm μ μ') := by
  obtain ⟨o1, o2, o3, o4, o5, o6⟩ := id w.1.1
  refine Ct.of 3 (by decide +kernel) rfl (Nat.le_of_ble_eq_true rfl) ?_
  show V G l RX8 cX8_gains 5 _ false _ _ 0 [some (.ref _), some (.int _), none, none, none] [] _
  refine R_aload_n (n := 1) dX8_gains_0 rfl rfl ?_
  refine R_iload_n (n := 2) dX8_gains_1 rfl rfl ?_
  refine iv_X8_89 (n := 5) (ct_X8_isBarge x h.2.1.2.1 (by omega)) (by decide) dX8_gains_2 rfl (Nat.le_of_ble_eq_true rfl) (fun r μ' hq => ?_)
  obtain ⟨rfl, hq⟩ := hq
  have hq := hq.symm
  subst hq
  cases hx : inR x (gC σ).1 with
  | false =>
    refine R_if_ne_f (n := 8) dX8_gains_5 rfl rfl (by decide) ?_
    refine R_iconst (v := -1) (n := 9) dX8_gains_8 rfl rfl ?_
    refine R_iret dX8_gains_9 rfl (rfl) (⟨by rw [aGains, hx]; rfl, Sme.rf _ _⟩)
  | true =>
    obtain ⟨hxl, hxe⟩ := inR_cl (by omega) hx
    rw [aGains, hx, if_pos rfl]
    clear hx
    generalize x.toNatClampNeg = j at *
    subst hxe
    refine R_if_ne_t (tgt := 10) dX8_gains_5 rfl (by decide) ?_
    refine R_aload_n (n := 11) dX8_gains_10 rfl rfl ?_
    refine iv_X8_126 (n := 14) (ct_X8_layTrial (h.q w)) (by decide) dX8_gains_11 rfl (Nat.le_of_ble_eq_true rfl) (fun r μ' hq => ?_)
    obtain ⟨rfl, -, g1, g2, g3⟩ := hq
    refine R_iconst (v := nI 0) (n := 15) dX8_gains_14 rfl rfl ?_
    refine R_istore_n (n := 16) dX8_gains_15 rfl (Nat.le_of_ble_eq_true rfl) (Nat.le_of_ble_eq_true rfl) ?_
    have loop : ∀ (f : Nat) (T : ST) (acc : Int32) (μ1 : Mem) (j3 j4 : Option Value), Ok (gC σ) (gC σ).1 T → Pm (gC σ).1 (sRow T) → MSt μ1 128 54 (gC σ).1 (gC σ) T → sPsd T + f = (gC σ).2.1 → Sme Ptm μ μ1 → V G l RX8 cX8_gains 5 3 false (some .int) (fun r μ' => r = some (.int (gnL (gC σ) j f T acc)) ∧ Sme Qrm μ μ') 16 [some (.ref (G.2.2.1 125)), some (.int (nI j)), some (.int acc), j3, j4] [] μ1 := by
      intro f
      induction f with
      | zero =>
        intro T acc μ1 j3 j4 hO hP hT hf hs
        have hM1 := h.2.1.kept hs (by omega) (by omega) (fun j => by omega) (fun j => by omega)
        have hp : μ1.1 128 107 = nI (sPsd T) := hT.2.2.2.2.2
        refine R_aload_n (n := 17) dX8_gains_16 rfl rfl ?_
        refine gf_X8_16 (n := 20) dX8_gains_17 rfl ?_
        refine R_bipush (v := nI 107) (n := 22) dX8_gains_20 rfl rfl ?_
        refine R_iald_e (n := 23) sh_128 (rfl) (by omega) dX8_gains_22 rfl (hp) ?_
        refine R_aload_n (n := 24) dX8_gains_23 rfl rfl ?_
        refine ge_X8_50 (n := 27) dX8_gains_24 rfl (hM1.1) ?_
        refine R_icmp_ge_t (tgt := 87) dX8_gains_27 rfl (by rw [nI_leI (by omega) (by omega)]; omega) ?_
        refine R_iload_n (n := 88) dX8_gains_87 rfl rfl ?_
        refine R_iret dX8_gains_88 rfl (rfl) (⟨rfl, hs.qm⟩)
      | succ f ih =>
        intro T acc μ1 j3 j4 hO hP hT hf hs
        have hM1 := h.2.1.kept hs (by omega) (by omega) (fun j => by omega) (fun j => by omega)
        have hp : μ1.1 128 107 = nI (sPsd T) := hT.2.2.2.2.2
        obtain ⟨p1, p2, p3⟩ := pos_spec hP hxl
        refine R_aload_n (n := 17) dX8_gains_16 rfl rfl ?_
        refine gf_X8_16 (n := 20) dX8_gains_17 rfl ?_
        refine R_bipush (v := nI 107) (n := 22) dX8_gains_20 rfl rfl ?_
        refine R_iald_e (n := 23) sh_128 (rfl) (by omega) dX8_gains_22 rfl (hp) ?_
        refine R_aload_n (n := 24) dX8_gains_23 rfl rfl ?_
        refine ge_X8_50 (n := 27) dX8_gains_24 rfl (hM1.1) ?_
        refine R_icmp_ge_f (n := 30) dX8_gains_27 rfl rfl (by rw [nI_leI (by omega) (by omega)]; omega) ?_
        refine R_aload_n (n := 31) dX8_gains_30 rfl rfl ?_
        refine gf_X8_16 (n := 34) dX8_gains_31 rfl ?_
        refine R_bipush (v := nI 107) (n := 36) dX8_gains_34 rfl rfl ?_
        refine R_iald_e (n := 37) sh_128 (rfl) (by omega) dX8_gains_36 rfl (hp) ?_
        refine R_istore_n (n := 38) dX8_gains_37 rfl (Nat.le_of_ble_eq_true rfl) (Nat.le_of_ble_eq_true rfl) ?_
        refine R_aload_n (n := 39) dX8_gains_38 rfl rfl ?_
        refine R_iconst (v := nI 1) (n := 40) dX8_gains_39 rfl rfl ?_
        refine R_iload_n (n := 41) dX8_gains_40 rfl rfl ?_
        refine R_aload_n (n := 42) dX8_gains_41 rfl rfl ?_
        refine ge_X8_83 (n := 45) dX8_gains_42 rfl (hM1.2.1) ?_
        refine iv_X8_93 (n := 48) (ct_X8_placeOf (lv := 1) (by omega) o1 hT.1 (fun p hp => Nat.lt_of_lt_of_le (hO.2.2.2.1 p hp) o1) (by omega) p1 p2 (pos_all hP hxl)) (by decide) dX8_gains_45 rfl (Nat.le_of_ble_eq_true rfl) (fun r μ' hq => ?_)
        obtain ⟨rfl, hq⟩ := hq
        have hq := hq.symm
        subst hq
        refine R_istore (n := 50) dX8_gains_48 rfl (Nat.le_of_ble_eq_true rfl) (Nat.le_of_ble_eq_true rfl) ?_
        refine R_aload_n (n := 51) dX8_gains_50 rfl rfl ?_
        refine R_iconst (v := nI 1) (n := 52) dX8_gains_51 rfl rfl ?_
        refine R_aload_n (n := 53) dX8_gains_52 rfl rfl ?_
        refine ge_X8_83 (n := 56) dX8_gains_53 rfl (hM1.2.1) ?_
        refine iv_X8_117 (n := 59) (ct_X8_passOn (lv := 1) (w0 := fun j => μ1.1 132 j) (by omega) hM1 hT (fun j _ => rfl) hO (by omega)) (by decide) dX8_gains_56 rfl (Nat.le_of_ble_eq_true rfl) (fun r μ' hq => ?_)
        obtain ⟨rfl, f1, f2, f3⟩ := hq
        have hs2 : Sme Ptm μ μ' := hs.tr (f3.mono (fun i j z => by omega))
        have hM2 := h.2.1.kept hs2 (by omega) (by omega) (fun j => by omega) (fun j => by omega)
        have hO2 := ok_pass1 hO (by omega)
        have hP2 := pm_pass1 (C := gC σ) hP
        obtain ⟨q1, q2, q3⟩ := pos_spec hP2 hxl
        refine R_iload_n (n := 60) dX8_gains_59 rfl rfl ?_
        refine R_aload_n (n := 61) dX8_gains_60 rfl rfl ?_
        refine R_iconst (v := nI 1) (n := 62) dX8_gains_61 rfl rfl ?_
        refine R_iload_n (n := 63) dX8_gains_62 rfl rfl ?_
        refine R_aload_n (n := 64) dX8_gains_63 rfl rfl ?_
        refine ge_X8_83 (n := 67) dX8_gains_64 rfl (hM2.2.1) ?_
        refine iv_X8_93 (n := 70) (ct_X8_placeOf (lv := 1) (by omega) o1 f1.1 (fun p hp => Nat.lt_of_lt_of_le (hO2.2.2.2.1 p hp) o1) (by omega) q1 q2 (pos_all hP2 hxl)) (by decide) dX8_gains_67 rfl (Nat.le_of_ble_eq_true rfl) (fun r μ' hq => ?_)
        obtain ⟨rfl, hq⟩ := hq
        have hq := hq.symm
        subst hq
        refine R_iload (n := 72) dX8_gains_70 rfl rfl ?_
        rw [gnL]
        by_cases e : posF (sRow (pass1 (gC σ) (gC σ).1 T)) j (gC σ).1 < posF (sRow T) j (gC σ).1
        · rw [if_pos e]
          refine R_icmp_ge_f (n := 75) dX8_gains_72 rfl rfl (by rw [nI_leI (by omega) (by omega)]; omega) ?_
          refine R_iconst (v := nI 1) (n := 76) dX8_gains_75 rfl rfl ?_
          refine R_iload_n (n := 77) dX8_gains_76 rfl rfl ?_
          refine R_ishl (n := 78) dX8_gains_77 rfl ?_
          refine R_goto (tgt := 82) dX8_gains_78 rfl ?_
          refine R_ior (n := 83) dX8_gains_82 rfl ?_
          refine R_istore_n (n := 84) dX8_gains_83 rfl (Nat.le_of_ble_eq_true rfl) (Nat.le_of_ble_eq_true rfl) ?_
          refine R_goto (tgt := 16) dX8_gains_84 rfl ?_
          exact ih _ _ _ _ _ hO2 hP2 f1 (by rw [sPsd_pass1]; omega) hs2
        · rw [if_neg e]
          refine R_icmp_ge_t (tgt := 81) dX8_gains_72 rfl (by rw [nI_leI (by omega) (by omega)]; omega) ?_
          refine R_iconst (v := nI 0) (n := 82) dX8_gains_81 rfl rfl ?_
          refine R_ior (n := 83) dX8_gains_82 rfl ?_
          refine R_istore_n (n := 84) dX8_gains_83 rfl (Nat.le_of_ble_eq_true rfl) (Nat.le_of_ble_eq_true rfl) ?_
          refine R_goto (tgt := 16) dX8_gains_84 rfl ?_
          rw [or_0]
          exact ih _ _ _ _ _ hO2 hP2 f1 (by rw [sPsd_pass1]; omega) hs2
    exact loop _ _ _ _ _ _ w.1.1 w.1.2.1 g1 (by omega) g3
theorem ct_X8_first (h : MI μ σ) (w : WF σ) (x y : Int32) : Ct G l 5 yX8_first cX8_first 5 (some .int) [.ref (G.2.2.1 125), .int x, .int y] μ (fun r μ' => r = some (.int (aFirst σ x y)) ∧ Sme Qrm μ μ') := by
  obtain ⟨o1, o2, o3, o4, o5, o6⟩ := id w.1.1
  refine Ct.of 2 (by decide +kernel) rfl (Nat.le_of_ble_eq_true rfl) ?_
  show V G l RX8 cX8_first 5 _ false _ _ 0 [some (.ref _), some (.int _), some (.int _), none, none] [] _
  refine R_aload_n (n := 1) dX8_first_0 rfl rfl ?_
  refine R_iload_n (n := 2) dX8_first_1 rfl rfl ?_
  refine iv_X8_89 (n := 5) (ct_X8_isBarge x h.2.1.2.1 (by omega)) (by decide) dX8_first_2 rfl (Nat.le_of_ble_eq_true rfl) (fun r μ' hq => ?_)
  obtain ⟨rfl, hq⟩ := hq
  have hq := hq.symm
  subst hq
  cases hx : inR x (gC σ).1 with
  | false =>
    have hr : ref2 σ x y = -1 := by rw [ref2, hx]; rfl
    rw [aFirst, hr, if_neg (by decide)]
    refine R_if_eq_t (tgt := 16) dX8_first_5 rfl (by decide) ?_
    refine R_iconst (v := -1) (n := 17) dX8_first_16 rfl rfl ?_
    refine R_iret dX8_first_17 rfl (rfl) (⟨rfl, Sme.rf _ _⟩)
  | true =>
    refine R_if_eq_f (n := 8) dX8_first_5 rfl rfl (by decide) ?_
    refine R_aload_n (n := 9) dX8_first_8 rfl rfl ?_
    refine R_iload_n (n := 10) dX8_first_9 rfl rfl ?_
    refine iv_X8_89 (n := 13) (ct_X8_isBarge y h.2.1.2.1 (by omega)) (by decide) dX8_first_10 rfl (Nat.le_of_ble_eq_true rfl) (fun r μ' hq => ?_)
    obtain ⟨rfl, hq⟩ := hq
    have hq := hq.symm
    subst hq
    cases hy : inR y (gC σ).1 with
    | false =>
      have hr : ref2 σ x y = -1 := by rw [ref2, hx, hy]; rfl
      rw [aFirst, hr, if_neg (by decide)]
      refine R_if_ne_f (n := 16) dX8_first_13 rfl rfl (by decide) ?_
      refine R_iconst (v := -1) (n := 17) dX8_first_16 rfl rfl ?_
      refine R_iret dX8_first_17 rfl (rfl) (⟨rfl, Sme.rf _ _⟩)
    | true =>
      refine R_if_ne_t (tgt := 18) dX8_first_13 rfl (by decide) ?_
      refine R_iload_n (n := 19) dX8_first_18 rfl rfl ?_
      refine R_iload_n (n := 20) dX8_first_19 rfl rfl ?_
      refine R_icmp_ne (n := 23) (tgt := 26) dX8_first_20 rfl rfl (fun e => ?_) (fun e => ?_)
      · have hr : ref2 σ x y = nI 0 := by rw [ref2, hx, hy, if_pos (show (true && true) = true from rfl), if_neg e]
        rw [aFirst, hr, if_pos rfl]
        obtain ⟨hxl, hxe⟩ := inR_cl (by omega) hx
        obtain ⟨hyl, hye⟩ := inR_cl (by omega) hy
        clear hx hy hr
        generalize x.toNatClampNeg = i at *
        generalize y.toNatClampNeg = j at *
        subst hxe
        subst hye
        refine R_iconst (v := nI 0) (n := 27) dX8_first_26 rfl rfl ?_
        refine R_istore_n (n := 28) dX8_first_27 rfl (Nat.le_of_ble_eq_true rfl) (Nat.le_of_ble_eq_true rfl) ?_
        have hfc := fct_ok (gC σ).1 (by omega)
        have loop : ∀ (f k : Nat) (μ1 : Mem) (j4 : Option Value), k + f = fct (gC σ).1 → Sme Ptm μ μ1 → V G l RX8 cX8_first 5 5 false (some .int) (fun r μ' => r = some (.int (foL (gC σ) (gS σ) i j f k)) ∧ Sme Qrm μ μ') 28 [some (.ref (G.2.2.1 125)), some (.int (nI i)), some (.int (nI j)), some (.int (nI k)), j4] [] μ1 := by
          intro f
          induction f with
          | zero =>
            intro k μ1 j4 hf hs
            have hM1 := h.2.1.kept hs (by omega) (by omega) (fun j => by omega) (fun j => by omega)
            refine R_iload_n (n := 29) dX8_first_28 rfl rfl ?_
            refine R_aload_n (n := 30) dX8_first_29 rfl rfl ?_
            refine ge_X8_83 (n := 33) dX8_first_30 rfl (hM1.2.1) ?_
            refine iv_X8_136 (n := 36) (ct_X8_factorial (by omega)) (by decide) dX8_first_33 rfl (Nat.le_of_ble_eq_true rfl) (fun r μ' hq => ?_)
            obtain ⟨rfl, hq⟩ := hq
            have hq := hq.symm
            subst hq
            refine R_icmp_ge_t (tgt := 77) dX8_first_36 rfl (by rw [nI_leI (by omega) (by omega)]; omega) ?_
            refine R_bipush (v := -9) (n := 79) dX8_first_77 rfl rfl ?_
            refine R_iret dX8_first_79 rfl (rfl) (⟨rfl, hs.qm⟩)
          | succ f ih =>
            intro k μ1 j4 hf hs
            have hM1 := h.2.1.kept hs (by omega) (by omega) (fun j => by omega) (fun j => by omega)
            refine R_iload_n (n := 29) dX8_first_28 rfl rfl ?_
            refine R_aload_n (n := 30) dX8_first_29 rfl rfl ?_
            refine ge_X8_83 (n := 33) dX8_first_30 rfl (hM1.2.1) ?_
            refine iv_X8_136 (n := 36) (ct_X8_factorial (by omega)) (by decide) dX8_first_33 rfl (Nat.le_of_ble_eq_true rfl) (fun r μ' hq => ?_)
            obtain ⟨rfl, hq⟩ := hq
            have hq := hq.symm
            subst hq
            refine R_icmp_ge_f (n := 39) dX8_first_36 rfl rfl (by rw [nI_leI (by omega) (by omega)]; omega) ?_
            refine R_aload_n (n := 40) dX8_first_39 rfl rfl ?_
            refine iv_X8_126 (n := 43) (ct_X8_layTrial ((h.q w).kept hs.qm)) (by decide) dX8_first_40 rfl (Nat.le_of_ble_eq_true rfl) (fun r μ' hq => ?_)
            obtain ⟨rfl, -, g1, g2, g3⟩ := hq
            have hM2 := hM1.kept g3 (by omega) (by omega) (fun j => by omega) (fun j => by omega)
            refine R_aload_n (n := 44) dX8_first_43 rfl rfl ?_
            refine R_iload_n (n := 45) dX8_first_44 rfl rfl ?_
            refine iv_X8_143 (n := 48) (ct_X8_layOrder hM2 g1 w.1.1 (by omega)) (by decide) dX8_first_45 rfl (Nat.le_of_ble_eq_true rfl) (fun r μ' hq => ?_)
            obtain ⟨rfl, f1, f2⟩ := hq
            have hM3 := hM2.kept f2 (by omega) (by omega) (fun j => by omega) (fun j => by omega)
            refine R_aload_n (n := 49) dX8_first_48 rfl rfl ?_
            refine R_iconst (v := nI 1) (n := 50) dX8_first_49 rfl rfl ?_
            refine R_aload_n (n := 51) dX8_first_50 rfl rfl ?_
            refine ge_X8_83 (n := 54) dX8_first_51 rfl (hM3.2.1) ?_
            refine iv_X8_121 (n := 57) (ct_X8_figuresOf (lv := 1) (by omega) o1 f1.1) (by decide) dX8_first_54 rfl (Nat.le_of_ble_eq_true rfl) (fun r μ' hq => ?_)
            obtain ⟨rfl, hq⟩ := hq
            have hq := hq.symm
            subst hq
            refine R_istore (n := 59) dX8_first_57 rfl (Nat.le_of_ble_eq_true rfl) (Nat.le_of_ble_eq_true rfl) ?_
            refine R_aload_n (n := 60) dX8_first_59 rfl rfl ?_
            refine R_iload_n (n := 61) dX8_first_60 rfl rfl ?_
            refine R_iload_n (n := 62) dX8_first_61 rfl rfl ?_
            refine iv_X8_146 (n := 65) (ct_X8_isSo (w0 := fun j => μ'.1 132 j) hM3 f1 ⟨o1, o2, o3, fun p hp => prm_lt _ (by omega) _ (by omega) p hp, o5, o6⟩ hxl hyl) (by decide) dX8_first_62 rfl (Nat.le_of_ble_eq_true rfl) (fun r μ' hq => ?_)
            obtain ⟨rfl, b2⟩ := hq
            have hs3 : Sme Ptm μ _ := ((hs.tr g3).tr f2).tr b2
            rw [foL]
            cases hb : suF (gC σ) (rowS (gS σ) (prm (gC σ).1 k)) i j with
            | true =>
              rw [if_pos rfl]
              refine R_if_eq_f (n := 68) dX8_first_65 rfl rfl (by decide) ?_
              refine R_iload (n := 70) dX8_first_68 rfl rfl ?_
              refine R_iret dX8_first_70 rfl (rfl) (⟨rfl, hs3.qm⟩)
            | false =>
              rw [if_neg (by decide)]
              refine R_if_eq_t (tgt := 71) dX8_first_65 rfl (by decide) ?_
              refine R_iinc (n := 74) dX8_first_71 rfl rfl (nI_1 _) (Nat.le_of_ble_eq_true rfl) ?_
              refine R_goto (tgt := 28) dX8_first_74 rfl ?_
              exact ih _ _ _ (by omega) hs3
        exact loop _ 0 μ _ (by omega) (Sme.rf _ _)
      · have hr : ref2 σ x y = -2 := by rw [ref2, hx, hy, if_pos (show (true && true) = true from rfl), if_pos e]
        rw [aFirst, hr, if_neg (by decide)]
        refine R_bipush (v := -2) (n := 25) dX8_first_23 rfl rfl ?_
        refine R_iret dX8_first_25 rfl (rfl) (⟨rfl, Sme.rf _ _⟩)
theorem ct_X8_count (h : MI μ σ) (w : WF σ) (x : Int32) : Ct G l 5 yX8_count cX8_count 2 (some .int) [.ref (G.2.2.1 125), .int x] μ (fun r μ' => r = some (.int (aCount σ x)) ∧ Sme Qrm μ μ') := by
  obtain ⟨o1, o2, o3, o4, o5, o6⟩ := id w.1.1
  refine Ct.of 0 (by decide +kernel) rfl (Nat.le_of_ble_eq_true rfl) ?_
  show V G l RX8 cX8_count 2 _ false _ _ 0 [some (.ref _), some (.int _)] [] _
  refine R_aload_n (n := 1) dX8_count_0 rfl rfl ?_
  refine iv_X8_133 (n := 4) (ct_X8_layBasin (h.q w)) (by decide) dX8_count_1 rfl (Nat.le_of_ble_eq_true rfl) (fun r μ' hq => ?_)
  obtain ⟨rfl, g1, g2, g3⟩ := hq
  have hI : MI μ' σ := h.kept w g3.qm
  obtain ⟨n1, n2, n3, n4, n5, n6⟩ := m0 hI.2.2.1
  refine R_iload_n (n := 5) dX8_count_4 rfl rfl ?_
  rw [aCount]
  by_cases e0 : x = nI 0
  · rw [if_pos e0, e0]
    refine R_tableIn (off := 51) (tgt := 56) dX8_count_5 (by decide) (by decide) (by decide) rfl ?_
    refine R_aload_n (n := 57) dX8_count_56 rfl rfl ?_
    refine ge_X8_60 (n := 60) dX8_count_57 rfl (hI.1.1) ?_
    refine R_iret dX8_count_60 rfl (rfl) (⟨rfl, g3.qm⟩)
  rw [if_neg e0]
  by_cases e1 : x = nI 1
  · rw [if_pos e1, e1]
    refine R_tableIn (off := 56) (tgt := 61) dX8_count_5 (by decide) (by decide) (by decide) rfl ?_
    refine R_aload_n (n := 62) dX8_count_61 rfl rfl ?_
    refine ge_X8_50 (n := 65) dX8_count_62 rfl (hI.2.1.1) ?_
    refine R_iret dX8_count_65 rfl (rfl) (⟨rfl, g3.qm⟩)
  rw [if_neg e1]
  by_cases e2 : x = nI 2
  · rw [if_pos e2, e2]
    refine R_tableIn (off := 61) (tgt := 66) dX8_count_5 (by decide) (by decide) (by decide) rfl ?_
    refine R_aload_n (n := 67) dX8_count_66 rfl rfl ?_
    refine ge_X8_83 (n := 70) dX8_count_67 rfl (hI.2.1.2.1) ?_
    refine R_iret dX8_count_70 rfl (rfl) (⟨rfl, g3.qm⟩)
  rw [if_neg e2]
  by_cases e3 : x = nI 3
  · rw [if_pos e3, e3]
    refine R_tableIn (off := 66) (tgt := 71) dX8_count_5 (by decide) (by decide) (by decide) rfl ?_
    refine R_aload_n (n := 72) dX8_count_71 rfl rfl ?_
    refine gf_X8_16 (n := 75) dX8_count_72 rfl ?_
    refine R_bipush (v := nI 53) (n := 77) dX8_count_75 rfl rfl ?_
    refine R_iald_e (n := 78) sh_128 (rfl) (by omega) dX8_count_77 rfl (n6) ?_
    refine R_iret dX8_count_78 rfl (rfl) (⟨rfl, g3.qm⟩)
  rw [if_neg e3]
  by_cases e4 : x = nI 4
  · rw [if_pos e4, e4]
    refine R_tableIn (off := 74) (tgt := 79) dX8_count_5 (by decide) (by decide) (by decide) rfl ?_
    refine R_aload_n (n := 80) dX8_count_79 rfl rfl ?_
    refine R_iconst (v := nI 0) (n := 81) dX8_count_80 rfl rfl ?_
    refine R_aload_n (n := 82) dX8_count_81 rfl rfl ?_
    refine ge_X8_83 (n := 85) dX8_count_82 rfl (hI.2.1.2.1) ?_
    refine iv_X8_121 (n := 88) (ct_X8_figuresOf (lv := 0) (by omega) o1 hI.2.2.1.1) (by decide) dX8_count_85 rfl (Nat.le_of_ble_eq_true rfl) (fun r μ' hq => ?_)
    obtain ⟨rfl, hq⟩ := hq
    have hq := hq.symm
    subst hq
    refine R_iret dX8_count_88 rfl (rfl) (⟨rfl, g3.qm⟩)
  rw [if_neg e4]
  by_cases e5 : x = nI 5
  · rw [if_pos e5, e5]
    refine R_tableIn (off := 84) (tgt := 89) dX8_count_5 (by decide) (by decide) (by decide) rfl ?_
    refine R_aload_n (n := 90) dX8_count_89 rfl rfl ?_
    refine R_bipush (v := nI 17) (n := 92) dX8_count_90 rfl rfl ?_
    refine R_aload_n (n := 93) dX8_count_92 rfl rfl ?_
    refine ge_X8_83 (n := 96) dX8_count_93 rfl (hI.2.1.2.1) ?_
    refine iv_X8_202 (n := 99) (ct_X8_sumOf (by omega)) (by decide) dX8_count_96 rfl (Nat.le_of_ble_eq_true rfl) (fun r μ' hq => ?_)
    obtain ⟨rfl, hq⟩ := hq
    have hq := hq.symm
    subst hq
    refine R_iret dX8_count_99 rfl rfl ⟨congrArg (fun z => some (Value.int z)) (sm_congr (fun i hi => n4 i hi)), g3.qm⟩
  rw [if_neg e5]
  by_cases e6 : x = nI 6
  · rw [if_pos e6, e6]
    refine R_tableIn (off := 95) (tgt := 100) dX8_count_5 (by decide) (by decide) (by decide) rfl ?_
    refine R_aload_n (n := 101) dX8_count_100 rfl rfl ?_
    refine R_bipush (v := nI 23) (n := 103) dX8_count_101 rfl rfl ?_
    refine R_bipush (v := nI 30) (n := 105) dX8_count_103 rfl rfl ?_
    refine iv_X8_202 (n := 108) (ct_X8_sumOf (by omega)) (by decide) dX8_count_105 rfl (Nat.le_of_ble_eq_true rfl) (fun r μ' hq => ?_)
    obtain ⟨rfl, hq⟩ := hq
    have hq := hq.symm
    subst hq
    refine R_iret dX8_count_108 rfl rfl ⟨congrArg (fun z => some (Value.int z)) (sm_congr (fun i hi => n5 i hi)), g3.qm⟩
  rw [if_neg e6]
  by_cases e7 : x = nI 7
  · rw [if_pos e7, e7]
    refine R_tableIn (off := 104) (tgt := 109) dX8_count_5 (by decide) (by decide) (by decide) rfl ?_
    refine R_aload_n (n := 110) dX8_count_109 rfl rfl ?_
    refine ge_X8_86 (n := 113) dX8_count_110 rfl (hI.2.2.2.1.2.1) ?_
    refine R_iret dX8_count_113 rfl (rfl) (⟨rfl, g3.qm⟩)
  rw [if_neg e7]
  by_cases e8 : x = nI 8
  · rw [if_pos e8, e8]
    have hOb := ok_gos ((gC σ).2.1 - sPsd (gS σ)) (gS σ) w.1.1 (by omega)
    refine R_tableIn (off := 109) (tgt := 114) dX8_count_5 (by decide) (by decide) (by decide) rfl ?_
    refine R_aload_n (n := 115) dX8_count_114 rfl rfl ?_
    refine R_iconst (v := nI 1) (n := 116) dX8_count_115 rfl rfl ?_
    refine R_aload_n (n := 117) dX8_count_116 rfl rfl ?_
    refine ge_X8_83 (n := 120) dX8_count_117 rfl (hI.2.1.2.1) ?_
    refine iv_X8_157 (n := 123) (ct_X8_greatest (lv := 1) (row := sRow (gB σ)) (hrs := sHrs (gB σ)) (by omega) o1 g1.1 (fun p hp => Nat.lt_of_lt_of_le (hOb.2.2.2.1 p hp) o1) (fun p hp => g1.2.1 _ (hOb.2.2.2.1 p hp))) (by decide) dX8_count_120 rfl (Nat.le_of_ble_eq_true rfl) (fun r μ' hq => ?_)
    obtain ⟨rfl, hq⟩ := hq
    have hq := hq.symm
    subst hq
    refine R_iret dX8_count_123 rfl (rfl) (⟨rfl, g3.qm⟩)
  rw [if_neg e8]
  refine R_tableOut (tgt := 124) dX8_count_5 (tbl_out (n := 8) (by omega) (fun k hk z => by rcases (show k = 0 ∨ k = 1 ∨ k = 2 ∨ k = 3 ∨ k = 4 ∨ k = 5 ∨ k = 6 ∨ k = 7 ∨ k = 8 by omega) with q | q | q | q | q | q | q | q | q <;> subst q <;> contradiction)) rfl ?_
  refine R_bipush (v := -2) (n := 126) dX8_count_124 rfl rfl ?_
  refine R_iret dX8_count_126 rfl (rfl) (⟨rfl, g3.qm⟩)
end M10

