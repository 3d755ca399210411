section PU
variable {G : Gm} {l : Launch} {μ : Mem} {σ : GS}
theorem SmC.rf (μ : Mem) : SmC μ μ := ⟨fun _ _ _ => rfl, rfl⟩
theorem SmC.tr {μ μ1 μ2 : Mem} (h : SmC μ μ1) (h2 : SmC μ1 μ2) : SmC μ μ2 := ⟨fun i j hi => (h2.1 i j hi).trans (h.1 i j hi), h2.2.trans h.2⟩
theorem nI_ne9 {p : Nat} (hp : p < 2 ^ 31) : ¬ nI p = -9 := by
  intro h
  have h1 := congrArg Int32.toInt h
  rw [nI_toInt hp] at h1
  have h2 : (-9 : Int32).toInt = -9 := by decide
  omega
theorem flt_le {tx : Nat → Nat} {len : Nat} : ∀ (f p d ks bs q : Nat), p ≤ len → flt tx len f p d ks bs = some q → q ≤ len := by
  intro f
  induction f with
  | zero =>
    intro p d ks bs q hp h
    rw [flt] at h
    by_cases e : d = 1
    · rw [if_pos e] at h; cases h
    · rw [if_neg e] at h; cases h; omega
  | succ f ih =>
    intro p d ks bs q hp h
    by_cases hl : p < len
    · rw [flt, if_pos hl] at h
      by_cases hc : dueF d (tx p) = 6 ∨ 5 < (if tx p = 75 then ks + 1 else ks) ∨ 6 < (if tx p = 66 then bs + 1 else bs)
      · rw [if_pos hc] at h; cases h; omega
      · rw [if_neg hc] at h; exact ih _ _ _ _ _ (by omega) h
    · rw [flt_en hl] at h
      by_cases e : d = 1
      · rw [if_pos e] at h; cases h
      · rw [if_neg e] at h; cases h; omega
theorem tbl_out {w : Int32} {n : Nat} (hn : n < 2 ^ 31) (h : ∀ k, k ≤ n → ¬ w = nI k) : w.toInt < 0 ∨ (n : Int) < w.toInt := by
  rcases Int.lt_or_le w.toInt 0 with q | q
  · exact Or.inl q
  · rcases Int.lt_or_le n w.toInt with q2 | q2
    · exact Or.inr q2
    · refine absurd ?_ (h w.toInt.toNat (by omega))
      apply Int32.toInt_inj.mp
      rw [nI_toInt (by omega)]
      omega
theorem sm_congr {f g : Nat → Int32} : ∀ {n : Nat}, (∀ j, j < n → f j = g j) → sm f n = sm g n
  | 0, _ => rfl
  | n + 1, h => by rw [sm, sm, sm_congr (n := n) (fun j hj => h j (by omega)), h n (by omega)]
theorem CI.act {μ μ1 μ2 : Mem} {S' : ST} (h : CI μ σ) (h1 : CAc μ1 (gC σ) (pushH (gS σ) (gH' σ)) (if gA σ < 14 then gA σ + 1 else 14)) (s1 : Sme Pac μ μ1) (h2 : CSt μ2 6 (gC σ).1 (gC σ) S') (s2 : Sme (fun i _ => 6 ≤ i ∧ i ≤ 11) μ1 μ2) : CI μ2 (act σ S') ∧ SmC μ μ2 :=
  ⟨⟨(h.1.kept s1 (by omega) (fun k => by omega)).kept s2 (by omega) (fun k => by omega), (h.2.1.kept s1 (by omega) (by omega) (fun j => by omega) (fun j => by omega)).kept s2 (by omega) (by omega) (fun j => by omega) (fun j => by omega), h2, h1.kept s2 (fun i j z1 z2 => by omega), (h.2.2.2.2.1.kept s1 (fun i j z1 z2 => by omega)).kept s2 (fun i j z1 z2 => by omega), by rw [s2.2, s1.2]; exact h.2.2.2.2.2⟩,
   (s1.C (fun i j z => by omega)).tr (s2.C (fun i j z => by omega))⟩
theorem ct_X7_write (h : CI μ σ) (x : Int32) : Ct G l 2 yX7_write cX7_write 2 (some .int) [.ref (G.2.2.1 0), .int x] μ (fun r μ' => r = some (.int (fWrite σ x).1) ∧ CI μ' (fWrite σ x).2 ∧ SmC μ μ') := by
  have hT := h.1
  refine Ct.of 0 (by decide +kernel) rfl (Nat.le_of_ble_eq_true rfl) ?_
  show V G l RX7 cX7_write 2 _ false _ _ 0 [some (.ref _), some (.int _)] [] _
  refine R_iload_n (n := 1) dX7_write_0 rfl rfl ?_
  refine R_if_lt (n := 4) (tgt := 11) dX7_write_1 rfl rfl (fun h1 => ?_) (fun h1 => ?_)
  · rw [show fWrite σ x = (-2, σ) by rw [fWrite, if_pos (Or.inl h1)]]
    refine R_bipush (v := -2) (n := 13) dX7_write_11 rfl rfl ?_
    refine R_iret dX7_write_13 rfl (rfl) (⟨rfl, h, SmC.rf _⟩)
  · refine R_iload_n (n := 5) dX7_write_4 rfl rfl ?_
    refine R_sipush (v := nI 255) (n := 8) dX7_write_5 rfl rfl ?_
    refine R_icmp_le (n := 11) (tgt := 14) dX7_write_8 rfl rfl (fun h2 => ?_) (fun h2 => ?_)
    · obtain ⟨m, hm, rfl⟩ := nI_of h1
      have hm2 : m < 256 := by rw [nI_leI hm (by omega)] at h2; omega
      have hl := hT.2.1
      refine R_aload_n (n := 15) dX7_write_14 rfl rfl ?_
      refine gf_X7_10 (n := 18) dX7_write_15 rfl ?_
      refine ge_X7_51 (n := 21) dX7_write_18 rfl (hT.1) ?_
      refine R_bipush (v := nI 40) (n := 23) dX7_write_21 rfl rfl ?_
      by_cases h3 : 40 ≤ gL σ
      · rw [show fWrite σ (nI m) = (-4, σ) by rw [fWrite, if_neg (fun z => z.elim h1 (fun q => absurd h2 (Int32.not_le.mpr q))), if_pos h3]]
        refine R_icmp_lt_f (n := 26) dX7_write_23 rfl rfl (by rw [nI_ltI (by omega) (by omega)]; omega) ?_
        refine R_bipush (v := -4) (n := 28) dX7_write_26 rfl rfl ?_
        refine R_iret dX7_write_28 rfl (rfl) (⟨rfl, h, SmC.rf _⟩)
      · rw [show fWrite σ (nI m) = (nI (gL σ + 1), mkG (gC σ) (gS σ) (gH' σ) (gA σ) (gK σ) (fun k => if k = gL σ then m else gT σ k) (gL σ + 1) (gZ σ)) by rw [fWrite, if_neg (fun z => z.elim h1 (fun q => absurd h2 (Int32.not_le.mpr q))), if_neg h3, nI_clamp hm]]
        refine R_icmp_lt_t (tgt := 29) dX7_write_23 rfl (by rw [nI_ltI (by omega) (by omega)]; omega) ?_
        refine R_aload_n (n := 30) dX7_write_29 rfl rfl ?_
        refine gf_X7_10 (n := 33) dX7_write_30 rfl ?_
        refine R_iload_n (n := 34) dX7_write_33 rfl rfl ?_
        refine iv_X7_55 (n := 37) (ct_X6_append hT hm2 (by omega)) (by decide) dX7_write_34 rfl (Nat.le_of_ble_eq_true rfl) (fun r μ' hq => ?_)
        obtain ⟨rfl, a1, a2⟩ := hq
        refine R_aload_n (n := 38) dX7_write_37 rfl rfl ?_
        refine gf_X7_10 (n := 41) dX7_write_38 rfl ?_
        refine ge_X7_51 (n := 44) dX7_write_41 rfl (a1.1) ?_
        refine R_iret dX7_write_44 rfl (rfl) (⟨rfl, ⟨a1, h.2.1.kept a2 (by omega) (by omega) (fun j => by omega) (fun j => by omega), h.2.2.1.kept a2 (fun i j z1 z2 => by omega), h.2.2.2.1.kept a2 (fun i j z1 z2 => by omega), h.2.2.2.2.1.kept a2 (fun i j z1 z2 => by omega), by rw [a2.2]; exact h.2.2.2.2.2⟩, a2.C (fun i j z => by omega)⟩)
    · rw [show fWrite σ x = (-2, σ) by rw [fWrite, if_pos (Or.inr (Int32.not_le.mp h2))]]
      refine R_bipush (v := -2) (n := 13) dX7_write_11 rfl rfl ?_
      refine R_iret dX7_write_13 rfl (rfl) (⟨rfl, h, SmC.rf _⟩)
theorem ct_X7_wipe (h : CI μ σ) : Ct G l 1 yX7_wipe cX7_wipe 2 (some .int) [.ref (G.2.2.1 0)] μ (fun r μ' => r = some (.int (fWipe σ).1) ∧ CI μ' (fWipe σ).2 ∧ SmC μ μ') := by
  have hT := h.1
  refine Ct.of 1 (by decide +kernel) rfl (Nat.le_of_ble_eq_true rfl) ?_
  show V G l RX7 cX7_wipe 2 _ false _ _ 0 [some (.ref _), none] [] _
  refine R_aload_n (n := 1) dX7_wipe_0 rfl rfl ?_
  refine gf_X7_10 (n := 4) dX7_wipe_1 rfl ?_
  refine ge_X7_51 (n := 7) dX7_wipe_4 rfl (hT.1) ?_
  refine R_istore_n (n := 8) dX7_wipe_7 rfl (Nat.le_of_ble_eq_true rfl) (Nat.le_of_ble_eq_true rfl) ?_
  refine R_aload_n (n := 9) dX7_wipe_8 rfl rfl ?_
  refine gf_X7_10 (n := 12) dX7_wipe_9 rfl ?_
  refine R_iconst (v := nI 0) (n := 13) dX7_wipe_12 rfl rfl ?_
  refine pf_X7_51 (n := 16) dX7_wipe_13 rfl ?_
  refine R_iload_n (n := 17) dX7_wipe_16 rfl rfl ?_
  have a2 : Sme (fun i j => i = 1 ∧ j = 1) μ (sti μ 1 1 (nI 0)) := (Sme.rf _ _).sti ⟨rfl, rfl⟩
  refine R_iret dX7_wipe_17 rfl rfl ⟨rfl, ⟨⟨by rw [sti_1_eq]; rfl, by show 0 ≤ 40; omega, fun k hk => absurd hk (by show ¬ k < 0; omega), fun k hk => absurd hk (by show ¬ k < 0; omega)⟩, h.2.1.kept a2 (by omega) (by omega) (fun j => by omega) (fun j => by omega), h.2.2.1.kept a2 (fun i j z1 z2 => by omega), h.2.2.2.1.kept a2 (fun i j z1 z2 => by omega), h.2.2.2.2.1.kept a2 (fun i j z1 z2 => by omega), h.2.2.2.2.2⟩, a2.C (fun i j z => by omega)⟩
theorem ct_X7_fault (h : CI μ σ) : Ct G l 3 yX7_fault cX7_fault 1 (some .int) [.ref (G.2.2.1 0)] μ (fun r μ' => r = some (.int (aFault σ)) ∧ Sme Qry μ μ') := by
  refine Ct.of 0 (by decide +kernel) rfl (Nat.le_of_ble_eq_true rfl) ?_
  show V G l RX7 cX7_fault 1 _ false _ _ 0 [some (.ref _)] [] _
  refine R_aload_n (n := 1) dX7_fault_0 rfl rfl ?_
  refine gf_X7_10 (n := 4) dX7_fault_1 rfl ?_
  refine iv_X7_59 (n := 7) (ct_X6_faultPlace h.1) (by decide) dX7_fault_4 rfl (Nat.le_of_ble_eq_true rfl) (fun r μ' hq => ?_)
  obtain ⟨rfl, hq⟩ := hq
  have hq := hq.symm
  subst hq
  refine R_iret dX7_fault_7 rfl (rfl) (⟨by rw [aFault, ← flt_rdT], Sme.rf _ _⟩)
theorem ct_X7_canal (h : CI μ σ) : Ct G l 4 yX7_canal cX7_canal 1 (some .int) [.ref (G.2.2.1 0)] μ (fun r μ' => r = some (.int (fCanal σ).1) ∧ CI μ' (fCanal σ).2 ∧ SmC μ μ') := by
  have hT := h.1
  refine Ct.of 0 (by decide +kernel) rfl (Nat.le_of_ble_eq_true rfl) ?_
  show V G l RX7 cX7_canal 1 _ false _ _ 0 [some (.ref _)] [] _
  refine R_aload_n (n := 1) dX7_canal_0 rfl rfl ?_
  refine gf_X7_10 (n := 4) dX7_canal_1 rfl ?_
  refine iv_X7_59 (n := 7) (ct_X6_faultPlace hT) (by decide) dX7_canal_4 rfl (Nat.le_of_ble_eq_true rfl) (fun r μ' hq => ?_)
  obtain ⟨rfl, hq⟩ := hq
  have hq := hq.symm
  subst hq
  refine R_bipush (v := -9) (n := 9) dX7_canal_7 rfl rfl ?_
  have hfl := flt_le (tx := gT σ) (len := gL σ) (gL σ) 0 0 0 0
  rw [flt_rdT] at hfl ⊢
  cases hr : rdT (gT σ) (gL σ) with
  | mk o A =>
    rw [hr] at hfl
    cases o with
    | some q =>
      have hq := hfl q (Nat.zero_le _) rfl
      have h40 := hT.2.1
      rw [show fCanal σ = (-3, σ) by rw [fCanal, hr]]
      refine R_icmp_eq_f (n := 12) dX7_canal_9 rfl rfl (nI_ne9 (by omega)) ?_
      refine R_bipush (v := -3) (n := 14) dX7_canal_12 rfl rfl ?_
      refine R_iret dX7_canal_14 rfl (rfl) (⟨rfl, h, SmC.rf _⟩)
    | none =>
      rw [show fCanal σ = (nI (10 * A.1 + A.2.1), mkG (accCF A) (accST A) (gH' σ) 0 (fun _ => none) (gT σ) (gL σ) (gZ σ)) by rw [fCanal, hr]]
      refine R_icmp_eq_t (tgt := 15) dX7_canal_9 rfl (rfl) ?_
      refine R_aload_n (n := 16) dX7_canal_15 rfl rfl ?_
      refine gf_X7_19 (n := 19) dX7_canal_16 rfl ?_
      refine R_aload_n (n := 20) dX7_canal_19 rfl rfl ?_
      refine gf_X7_10 (n := 23) dX7_canal_20 rfl ?_
      refine iv_X7_63 (n := 26) (ct_X1_makeFrom hT hr) (by decide) dX7_canal_23 rfl (Nat.le_of_ble_eq_true rfl) (fun r μ' hq => ?_)
      obtain ⟨rfl, m1, m2, m3⟩ := hq
      refine R_aload_n (n := 27) dX7_canal_26 rfl rfl ?_
      refine gf_X7_26 (n := 30) dX7_canal_27 rfl ?_
      refine iv_X7_67 (n := 33) (ct_X0_forgetAll (h.2.2.2.1.kept m3 (fun i j z1 z2 => by omega))) (by decide) dX7_canal_30 rfl (Nat.le_of_ble_eq_true rfl) (fun r μ' hq => ?_)
      obtain ⟨rfl, a1, a2⟩ := hq
      refine R_aload_n (n := 34) dX7_canal_33 rfl rfl ?_
      refine gf_X7_33 (n := 37) dX7_canal_34 rfl ?_
      refine iv_X7_70 (n := 40) (ct_X4_forgetAll) (by decide) dX7_canal_37 rfl (Nat.le_of_ble_eq_true rfl) (fun r μ' hq => ?_)
      obtain ⟨rfl, s1, s2⟩ := hq
      have hC' := (m1.kept a2 (by omega) (by omega) (fun j => by omega) (fun j => by omega)).kept s2 (by omega) (by omega) (fun j => by omega) (fun j => by omega)
      refine R_bipush (v := nI 10) (n := 42) dX7_canal_40 rfl rfl ?_
      refine R_aload_n (n := 43) dX7_canal_42 rfl rfl ?_
      refine gf_X7_19 (n := 46) dX7_canal_43 rfl ?_
      refine ge_X7_71 (n := 49) dX7_canal_46 rfl (hC'.1) ?_
      refine R_imul_n (n := 50) dX7_canal_49 rfl ?_
      refine R_aload_n (n := 51) dX7_canal_50 rfl rfl ?_
      refine gf_X7_19 (n := 54) dX7_canal_51 rfl ?_
      refine ge_X7_74 (n := 57) dX7_canal_54 rfl (hC'.2.1) ?_
      refine R_iadd_n (n := 58) dX7_canal_57 rfl ?_
      refine R_iret dX7_canal_58 rfl (rfl) (⟨rfl, ⟨((hT.kept m3 (by omega) (fun k => by omega)).kept a2 (by omega) (fun k => by omega)).kept s2 (by omega) (fun k => by omega), hC', (m2.kept a2 (fun i j z1 z2 => by omega)).kept s2 (fun i j z1 z2 => by omega), (a1 _ _).kept s2 (fun i j z1 z2 => by omega), s1 _, by rw [s2.2, a2.2, m3.2]; exact h.2.2.2.2.2⟩, ((m3.C (fun i j z => by omega)).tr (a2.C (fun i j z => by omega))).tr (s2.C (fun i j z => by omega))⟩)
theorem ct_X7_pass (h : CI μ σ) (w : WF σ) : Ct G l 4 yX7_pass cX7_pass 1 (some .int) [.ref (G.2.2.1 0)] μ (fun r μ' => r = some (.int (fPass σ).1) ∧ CI μ' (fPass σ).2 ∧ SmC μ μ') := by
  obtain ⟨o1, o2, o3, o4, o5, o6⟩ := id w.1.1
  refine Ct.of 0 (by decide +kernel) rfl (Nat.le_of_ble_eq_true rfl) ?_
  show V G l RX7 cX7_pass 1 _ false _ _ 0 [some (.ref _)] [] _
  refine R_aload_n (n := 1) dX7_pass_0 rfl rfl ?_
  refine gf_X7_19 (n := 4) dX7_pass_1 rfl ?_
  refine iv_X7_116 (n := 7) (ct_X1_locksLeft h.2.1.1 h.2.2.1.2.2.2.2.2.2 o6) (by decide) dX7_pass_4 rfl (Nat.le_of_ble_eq_true rfl) (fun r μ' hq => ?_)
  obtain ⟨rfl, hq⟩ := hq
  have hq := hq.symm
  subst hq
  by_cases e : sPsd (gS σ) = (gC σ).2.1
  · rw [show fPass σ = (-3, σ) by rw [fPass, if_pos e]]
    refine R_if_ne_f (n := 10) dX7_pass_7 rfl rfl (by rw [e, Nat.sub_self]; rfl) ?_
    refine R_bipush (v := -3) (n := 12) dX7_pass_10 rfl rfl ?_
    refine R_iret dX7_pass_12 rfl (rfl) (⟨rfl, h, SmC.rf _⟩)
  · rw [show fPass σ = (fig (sRow (pass1 (gC σ) (gC σ).1 (gS σ))) (gC σ).1, _) by rw [fPass, if_neg e]]
    refine R_if_ne_t (tgt := 13) dX7_pass_7 rfl (nI_ne0 (by omega) (by omega)) ?_
    refine R_aload_n (n := 14) dX7_pass_13 rfl rfl ?_
    refine gf_X7_26 (n := 17) dX7_pass_14 rfl ?_
    refine R_aload_n (n := 18) dX7_pass_17 rfl rfl ?_
    refine gf_X7_19 (n := 21) dX7_pass_18 rfl ?_
    refine gf_X7_88 (n := 24) dX7_pass_21 rfl ?_
    refine iv_X7_119 (n := 27) (ct_X0_remember h.2.2.1 o1 o2 h.2.2.2.1) (by decide) dX7_pass_24 rfl (Nat.le_of_ble_eq_true rfl) (fun r μ' hq => ?_)
    obtain ⟨rfl, r1, r2⟩ := hq
    refine R_aload_n (n := 28) dX7_pass_27 rfl rfl ?_
    refine gf_X7_19 (n := 31) dX7_pass_28 rfl ?_
    refine R_aload_n (n := 32) dX7_pass_31 rfl rfl ?_
    refine gf_X7_19 (n := 35) dX7_pass_32 rfl ?_
    refine gf_X7_88 (n := 38) dX7_pass_35 rfl ?_
    refine iv_X7_123 (n := 41) (ct_X1_goThroughNext stB_6 (by omega) (h.2.1.kept r2 (by omega) (by omega) (fun j => by omega) (fun j => by omega)) (h.2.2.1.kept r2 (fun i j z1 z2 => by omega)) w.1.1 (by omega)) (by decide) dX7_pass_38 rfl (Nat.le_of_ble_eq_true rfl) (fun r μ' hq => ?_)
    obtain ⟨rfl, g1, g2⟩ := hq
    refine R_aload_n (n := 42) dX7_pass_41 rfl rfl ?_
    refine gf_X7_19 (n := 45) dX7_pass_42 rfl ?_
    refine gf_X7_88 (n := 48) dX7_pass_45 rfl ?_
    refine iv_X7_126 (n := 51) (ct_X5_figures stB_6 o1 g1.2.2.2.2.2.1 g1.1) stB_6 (by decide) dX7_pass_48 rfl (Nat.le_of_ble_eq_true rfl) (fun r μ' hq => ?_)
    obtain ⟨rfl, hq⟩ := hq
    have hq := hq.symm
    subst hq
    refine R_iret dX7_pass_51 rfl (rfl) (⟨rfl, h.act r1 r2 g1 (g2.mono (fun i j z => by omega))⟩)
theorem ct_X7_give (h : CI μ σ) (w : WF σ) (x y : Int32) : Ct G l 3 yX7_give cX7_give 3 (some .int) [.ref (G.2.2.1 0), .int x, .int y] μ (fun r μ' => r = some (.int (fGive σ x y).1) ∧ CI μ' (fGive σ x y).2 ∧ SmC μ μ') := by
  obtain ⟨o1, o2, o3, o4, o5, o6⟩ := id w.1.1
  refine Ct.of 0 (by decide +kernel) rfl (Nat.le_of_ble_eq_true rfl) ?_
  show V G l RX7 cX7_give 3 _ false _ _ 0 [some (.ref _), some (.int _), some (.int _)] [] _
  refine R_aload_n (n := 1) dX7_give_0 rfl rfl ?_
  refine gf_X7_19 (n := 4) dX7_give_1 rfl ?_
  refine R_iload_n (n := 5) dX7_give_4 rfl rfl ?_
  refine iv_X7_77 (n := 8) (ct_X1_hasBarge x h.2.1.2.1) (by decide) dX7_give_5 rfl (Nat.le_of_ble_eq_true rfl) (fun r μ' hq => ?_)
  obtain ⟨rfl, hq⟩ := hq
  have hq := hq.symm
  subst hq
  cases hx : inR x (gC σ).1 with
  | false =>
    rw [show fGive σ x y = (-1, σ) by rw [fGive, hx]; rfl]
    refine R_if_eq_t (tgt := 22) dX7_give_8 rfl (by decide) ?_
    refine R_iconst (v := -1) (n := 23) dX7_give_22 rfl rfl ?_
    refine R_iret dX7_give_23 rfl (rfl) (⟨rfl, h, SmC.rf _⟩)
  | true =>
    refine R_if_eq_f (n := 11) dX7_give_8 rfl rfl (by decide) ?_
    refine R_aload_n (n := 12) dX7_give_11 rfl rfl ?_
    refine gf_X7_19 (n := 15) dX7_give_12 rfl ?_
    refine R_iload_n (n := 16) dX7_give_15 rfl rfl ?_
    refine iv_X7_104 (n := 19) (ct_X1_hasLock y h.2.1.1) (by decide) dX7_give_16 rfl (Nat.le_of_ble_eq_true rfl) (fun r μ' hq => ?_)
    obtain ⟨rfl, hq⟩ := hq
    have hq := hq.symm
    subst hq
    cases hy : inR y (gC σ).2.1 with
    | false =>
      rw [show fGive σ x y = (-1, σ) by rw [fGive, hx, hy]; rfl]
      refine R_if_ne_f (n := 22) dX7_give_19 rfl rfl (by decide) ?_
      refine R_iconst (v := -1) (n := 23) dX7_give_22 rfl rfl ?_
      refine R_iret dX7_give_23 rfl (rfl) (⟨rfl, h, SmC.rf _⟩)
    | true =>
      obtain ⟨hxl, hxe⟩ := inR_cl (by omega) hx
      obtain ⟨hyl, hye⟩ := inR_cl (by omega) hy
      have hF : fGive σ x y = if sTea (gS σ) x.toNatClampNeg = 0 ∨ y.toNatClampNeg < sPsd (gS σ) then (-3, σ)
    else (sGvn (gS σ) (y.toNatClampNeg * 6 + x.toNatClampNeg) + nI 1, act σ (addE (setT (gS σ) (updN (sTea (gS σ)) x.toNatClampNeg (sTea (gS σ) x.toNatClampNeg - 1))) (y.toNatClampNeg * 6 + x.toNatClampNeg) (nI 1))) := by rw [fGive, hx, hy]; rfl
      rw [hF]
      clear hF hx hy
      generalize x.toNatClampNeg = j at *
      generalize y.toNatClampNeg = k at *
      subst hxe
      subst hye
      have ht := w.1.2.2 j hxl
      refine R_if_ne_t (tgt := 24) dX7_give_19 rfl (by decide) ?_
      refine R_aload_n (n := 25) dX7_give_24 rfl rfl ?_
      refine gf_X7_19 (n := 28) dX7_give_25 rfl ?_
      refine gf_X7_88 (n := 31) dX7_give_28 rfl ?_
      refine gf_X7_92 (n := 34) stB_6 dX7_give_31 rfl ?_
      refine R_iload_n (n := 35) dX7_give_34 rfl rfl ?_
      refine R_iald_e (n := 36) stB_6.2.2.2.1 (rfl) (by omega) dX7_give_35 rfl (h.2.2.1.2.2.1 _ hxl) ?_
      refine R_iconst (v := nI 1) (n := 37) dX7_give_36 rfl rfl ?_
      by_cases e1 : sTea (gS σ) j = 0
      · rw [if_pos (Or.inl e1)]
        refine R_icmp_lt_t (tgt := 51) dX7_give_37 rfl (by rw [nI_ltI (by omega) (by omega)]; omega) ?_
        refine R_bipush (v := -3) (n := 53) dX7_give_51 rfl rfl ?_
        refine R_iret dX7_give_53 rfl (rfl) (⟨rfl, h, SmC.rf _⟩)
      · refine R_icmp_lt_f (n := 40) dX7_give_37 rfl rfl (by rw [nI_ltI (by omega) (by omega)]; omega) ?_
        refine R_aload_n (n := 41) dX7_give_40 rfl rfl ?_
        refine gf_X7_19 (n := 44) dX7_give_41 rfl ?_
        refine R_iload_n (n := 45) dX7_give_44 rfl rfl ?_
        refine iv_X7_110 (n := 48) (ct_X1_isPassed (by omega) (by omega) h.2.2.1.2.2.2.2.2.2) (by decide) dX7_give_45 rfl (Nat.le_of_ble_eq_true rfl) (fun r μ' hq => ?_)
        obtain ⟨rfl, hq⟩ := hq
        have hq := hq.symm
        subst hq
        by_cases e2 : k < sPsd (gS σ)
        · rw [if_pos (Or.inr e2), decide_eq_true e2]
          refine R_if_eq_f (n := 51) dX7_give_48 rfl rfl (by decide) ?_
          refine R_bipush (v := -3) (n := 53) dX7_give_51 rfl rfl ?_
          refine R_iret dX7_give_53 rfl (rfl) (⟨rfl, h, SmC.rf _⟩)
        · rw [if_neg (fun z => z.elim e1 e2), decide_eq_false e2]
          refine R_if_eq_t (tgt := 54) dX7_give_48 rfl (by decide) ?_
          refine R_aload_n (n := 55) dX7_give_54 rfl rfl ?_
          refine gf_X7_26 (n := 58) dX7_give_55 rfl ?_
          refine R_aload_n (n := 59) dX7_give_58 rfl rfl ?_
          refine gf_X7_19 (n := 62) dX7_give_59 rfl ?_
          refine gf_X7_88 (n := 65) dX7_give_62 rfl ?_
          refine iv_X7_119 (n := 68) (ct_X0_remember h.2.2.1 o1 o2 h.2.2.2.1) (by decide) dX7_give_65 rfl (Nat.le_of_ble_eq_true rfl) (fun r μ' hq => ?_)
          obtain ⟨rfl, r1, r2⟩ := hq
          have hS1 := h.2.2.1.kept r2 (fun i j z1 z2 => by omega)
          refine R_aload_n (n := 69) dX7_give_68 rfl rfl ?_
          refine gf_X7_19 (n := 72) dX7_give_69 rfl ?_
          refine gf_X7_88 (n := 75) dX7_give_72 rfl ?_
          refine gf_X7_92 (n := 78) stB_6 dX7_give_75 rfl ?_
          refine R_iload_n (n := 79) dX7_give_78 rfl rfl ?_
          refine R_dup2 (n := 80) dX7_give_79 rfl rfl rfl ?_
          refine R_iald_e (n := 81) stB_6.2.2.2.1 (rfl) (by omega) dX7_give_80 rfl (hS1.2.2.1 _ hxl) ?_
          refine R_iconst (v := nI 1) (n := 82) dX7_give_81 rfl rfl ?_
          refine R_isub_n (n := 83) dX7_give_82 ((by omega)) rfl ?_
          refine R_iast (n := 84) stB_6.2.2.2.1 (rfl) (by omega) dX7_give_83 rfl ?_
          refine R_aload_n (n := 85) dX7_give_84 rfl rfl ?_
          refine gf_X7_19 (n := 88) dX7_give_85 rfl ?_
          refine gf_X7_88 (n := 91) dX7_give_88 rfl ?_
          refine R_iload_n (n := 92) dX7_give_91 rfl rfl ?_
          refine R_iload_n (n := 93) dX7_give_92 rfl rfl ?_
          refine R_iconst (v := nI 1) (n := 94) dX7_give_93 rfl rfl ?_
          refine iv_X7_129 (n := 97) (ct_X5_addLoads stB_6 (by omega) (by omega) (nI 1)) stB_6 (by decide) dX7_give_94 rfl (Nat.le_of_ble_eq_true rfl) (fun r μ' hq => ?_)
          obtain ⟨rfl, rfl⟩ := hq
          refine R_aload_n (n := 98) dX7_give_97 rfl rfl ?_
          refine gf_X7_19 (n := 101) dX7_give_98 rfl ?_
          refine gf_X7_88 (n := 104) dX7_give_101 rfl ?_
          refine R_iload_n (n := 105) dX7_give_104 rfl rfl ?_
          refine R_iload_n (n := 106) dX7_give_105 rfl rfl ?_
          refine iv_X7_133 (n := 109) (ct_X5_loadsOf stB_6 (by omega) (by omega)) stB_6 (by decide) dX7_give_106 rfl (Nat.le_of_ble_eq_true rfl) (fun r μ' hq => ?_)
          obtain ⟨rfl, hq⟩ := hq
          have hq := hq.symm
          subst hq
          have s2 : Sme (fun i _ => 6 ≤ i ∧ i ≤ 11) μ' (sti (sti μ' 9 j (nI (sTea (gS σ) j - 1))) 11 (k * 6 + j) ((sti μ' 9 j (nI (sTea (gS σ) j - 1))).1 11 (k * 6 + j) + nI 1)) := ((Sme.rf _ _).sti (by omega)).sti (by omega)
          have hg : (sti μ' 9 j (nI (sTea (gS σ) j - 1))).1 11 (k * 6 + j) = sGvn (gS σ) (k * 6 + j) := by rw [sti_1_ne _ _ _ (by omega)]; exact hS1.2.2.2.2.1 _ (by omega)
          refine R_iret dX7_give_109 rfl rfl ⟨?_, h.act r1 r2 ?_ s2⟩
          · refine congrArg (fun z => some (Value.int z)) ?_
            show (sti (sti μ' 9 j (nI (sTea (gS σ) j - 1))) 11 (k * 6 + j) ((sti μ' 9 j (nI (sTea (gS σ) j - 1))).1 11 (k * 6 + j) + nI 1)).1 11 (k * 6 + j) = _
            rw [sti_1_eq, hg]
          · obtain ⟨t1, t2, t3, t4, t5, t6, t7⟩ := hS1
            refine ⟨fun p hp => ?_, fun p hp => ?_, fun p hp => ?_, fun p hp => ?_, fun e he => ?_, ?_, ?_⟩
            · rw [sti_1_ne _ _ _ (by omega), sti_1_ne _ _ _ (by omega)]; exact t1 p hp
            · rw [sti_1_ne _ _ _ (by omega), sti_1_ne _ _ _ (by omega)]; exact t2 p hp
            · rw [sti_1_ne _ _ _ (by omega), sti_1]
              show _ = nI (updN _ _ _ p)
              unfold updN
              by_cases e3 : p = j
              · rw [if_pos ⟨rfl, e3⟩, if_pos e3]
              · rw [if_neg (fun z => e3 z.2), if_neg e3]; exact t3 p hp
            · rw [sti_1_ne _ _ _ (by omega), sti_1_ne _ _ _ (by omega)]; exact t4 p hp
            · rw [sti_1, hg]
              show _ = if e = k * 6 + j then sGvn (gS σ) e + nI 1 else sGvn (gS σ) e
              by_cases e3 : e = k * 6 + j
              · rw [if_pos ⟨rfl, e3⟩, if_pos e3, e3]
              · rw [if_neg (fun z => e3 z.2), if_neg e3, sti_1_ne _ _ _ (by omega)]; exact t5 e he
            · rw [sti_1_ne _ _ _ (by omega), sti_1_ne _ _ _ (by omega)]; exact t6
            · rw [sti_1_ne _ _ _ (by omega), sti_1_ne _ _ _ (by omega)]; exact t7
theorem ct_X7_letBy (h : CI μ σ) (w : WF σ) (x : Int32) : Ct G l 3 yX7_letBy cX7_letBy 3 (some .int) [.ref (G.2.2.1 0), .int x] μ (fun r μ' => r = some (.int (fLetBy σ x).1) ∧ CI μ' (fLetBy σ x).2 ∧ SmC μ μ') := by
  obtain ⟨o1, o2, o3, o4, o5, o6⟩ := id w.1.1
  refine Ct.of 1 (by decide +kernel) rfl (Nat.le_of_ble_eq_true rfl) ?_
  show V G l RX7 cX7_letBy 3 _ false _ _ 0 [some (.ref _), some (.int _), none] [] _
  refine R_aload_n (n := 1) dX7_letBy_0 rfl rfl ?_
  refine gf_X7_19 (n := 4) dX7_letBy_1 rfl ?_
  refine R_iload_n (n := 5) dX7_letBy_4 rfl rfl ?_
  refine iv_X7_77 (n := 8) (ct_X1_hasBarge x h.2.1.2.1) (by decide) dX7_letBy_5 rfl (Nat.le_of_ble_eq_true rfl) (fun r μ' hq => ?_)
  obtain ⟨rfl, hq⟩ := hq
  have hq := hq.symm
  subst hq
  cases hx : inR x (gC σ).1 with
  | false =>
    rw [show fLetBy σ x = (-1, σ) by rw [fLetBy, hx]; rfl]
    refine R_if_ne_f (n := 11) dX7_letBy_8 rfl rfl (by decide) ?_
    refine R_iconst (v := -1) (n := 12) dX7_letBy_11 rfl rfl ?_
    refine R_iret dX7_letBy_12 rfl (rfl) (⟨rfl, h, SmC.rf _⟩)
  | true =>
    obtain ⟨hxl, hxe⟩ := inR_cl (by omega) hx
    have hF : fLetBy σ x = if (gC σ).1 - 1 ≤ posF (sRow (gS σ)) x.toNatClampNeg (gC σ).1 then (-3, σ)
    else (nI (posF (sRow (gS σ)) x.toNatClampNeg (gC σ).1 + 1), act σ (rowS (gS σ) (swp (sRow (gS σ)) (posF (sRow (gS σ)) x.toNatClampNeg (gC σ).1)))) := by rw [fLetBy, hx]; rfl
    rw [hF]
    clear hF hx
    generalize x.toNatClampNeg = j at *
    subst hxe
    obtain ⟨p1, p2, p3⟩ := pos_spec w.1.2.1 hxl
    refine R_if_ne_t (tgt := 13) dX7_letBy_8 rfl (by decide) ?_
    refine R_aload_n (n := 14) dX7_letBy_13 rfl rfl ?_
    refine gf_X7_19 (n := 17) dX7_letBy_14 rfl ?_
    refine gf_X7_88 (n := 20) dX7_letBy_17 rfl ?_
    refine R_iload_n (n := 21) dX7_letBy_20 rfl rfl ?_
    refine iv_X7_97 (n := 24) (ct_X5_placeOf stB_6 o1 h.2.2.1.2.2.2.2.2.1 h.2.2.1.1 (fun p hp => Nat.lt_of_lt_of_le (o4 p hp) o1) (by omega) p1 p2 p3) stB_6 (by decide) dX7_letBy_21 rfl (Nat.le_of_ble_eq_true rfl) (fun r μ' hq => ?_)
    obtain ⟨rfl, hq⟩ := hq
    have hq := hq.symm
    subst hq
    refine R_istore_n (n := 25) dX7_letBy_24 rfl (Nat.le_of_ble_eq_true rfl) (Nat.le_of_ble_eq_true rfl) ?_
    refine R_iload_n (n := 26) dX7_letBy_25 rfl rfl ?_
    refine R_aload_n (n := 27) dX7_letBy_26 rfl rfl ?_
    refine gf_X7_19 (n := 30) dX7_letBy_27 rfl ?_
    refine ge_X7_74 (n := 33) dX7_letBy_30 rfl (h.2.1.2.1) ?_
    refine R_iconst (v := nI 1) (n := 34) dX7_letBy_33 rfl rfl ?_
    refine R_isub_n (n := 35) dX7_letBy_34 ((by omega)) rfl ?_
    generalize posF (sRow (gS σ)) j (gC σ).1 = p at *
    by_cases e : (gC σ).1 - 1 ≤ p
    · rw [if_pos e]
      refine R_icmp_lt_f (n := 38) dX7_letBy_35 rfl rfl (by rw [nI_ltI (by omega) (by omega)]; omega) ?_
      refine R_bipush (v := -3) (n := 40) dX7_letBy_38 rfl rfl ?_
      refine R_iret dX7_letBy_40 rfl (rfl) (⟨rfl, h, SmC.rf _⟩)
    · rw [if_neg e]
      refine R_icmp_lt_t (tgt := 41) dX7_letBy_35 rfl (by rw [nI_ltI (by omega) (by omega)]; omega) ?_
      refine R_aload_n (n := 42) dX7_letBy_41 rfl rfl ?_
      refine gf_X7_26 (n := 45) dX7_letBy_42 rfl ?_
      refine R_aload_n (n := 46) dX7_letBy_45 rfl rfl ?_
      refine gf_X7_19 (n := 49) dX7_letBy_46 rfl ?_
      refine gf_X7_88 (n := 52) dX7_letBy_49 rfl ?_
      refine iv_X7_119 (n := 55) (ct_X0_remember h.2.2.1 o1 o2 h.2.2.2.1) (by decide) dX7_letBy_52 rfl (Nat.le_of_ble_eq_true rfl) (fun r μ' hq => ?_)
      obtain ⟨rfl, r1, r2⟩ := hq
      have hS1 := h.2.2.1.kept r2 (fun i j z1 z2 => by omega)
      refine R_aload_n (n := 56) dX7_letBy_55 rfl rfl ?_
      refine gf_X7_19 (n := 59) dX7_letBy_56 rfl ?_
      refine gf_X7_88 (n := 62) dX7_letBy_59 rfl ?_
      refine R_iload_n (n := 63) dX7_letBy_62 rfl rfl ?_
      refine iv_X7_137 (n := 66) (ct_X5_turn stB_6 o1 hS1.2.2.2.2.2.1 (by omega)) stB_6 (by decide) dX7_letBy_63 rfl (Nat.le_of_ble_eq_true rfl) (fun r μ' hq => ?_)
      obtain ⟨rfl, rfl⟩ := hq
      have s2 : Sme (fun i _ => 6 ≤ i ∧ i ≤ 11) μ' (sti (sti μ' 7 p (μ'.1 7 (p + 1))) 7 (p + 1) (μ'.1 7 p)) := ((Sme.rf _ _).sti (by omega)).sti (by omega)
      refine R_iload_n (n := 67) dX7_letBy_66 rfl rfl ?_
      refine R_iconst (v := nI 1) (n := 68) dX7_letBy_67 rfl rfl ?_
      refine R_iadd_n (n := 69) dX7_letBy_68 rfl ?_
      refine R_iret dX7_letBy_69 rfl rfl ⟨rfl, h.act r1 r2 ?_ s2⟩
      obtain ⟨t1, t2, t3, t4, t5, t6, t7⟩ := hS1
      refine ⟨fun q hq => ?_, fun p hp => ?_, fun p hp => ?_, fun p hp => ?_, fun e he => ?_, ?_, ?_⟩
      · show (sti (sti μ' 7 p (μ'.1 7 (p + 1))) 7 (p + 1) (μ'.1 7 p)).1 7 q = nI (swp (sRow (gS σ)) p q)
        rw [sti_1, sti_1]
        unfold swp
        by_cases e1 : q = p + 1
        · rw [if_pos ⟨rfl, e1⟩, if_pos e1]; exact t1 p (by omega)
        · rw [if_neg (fun z => e1 z.2), if_neg e1]
          by_cases e2 : q = p
          · rw [if_pos ⟨rfl, e2⟩, if_pos e2]; exact t1 _ (by omega)
          · rw [if_neg (fun z => e2 z.2), if_neg e2]; exact t1 q hq
      · exact ((Sme.rf (fun i _ => i = 7) μ').sti (i := 7) rfl |>.sti (i := 7) rfl).1 _ _ (by omega) |>.trans (t2 p hp)
      · exact ((Sme.rf (fun i _ => i = 7) μ').sti (i := 7) rfl |>.sti (i := 7) rfl).1 _ _ (by omega) |>.trans (t3 p hp)
      · exact ((Sme.rf (fun i _ => i = 7) μ').sti (i := 7) rfl |>.sti (i := 7) rfl).1 _ _ (by omega) |>.trans (t4 p hp)
      · exact ((Sme.rf (fun i _ => i = 7) μ').sti (i := 7) rfl |>.sti (i := 7) rfl).1 _ _ (by omega) |>.trans (t5 e he)
      · exact ((Sme.rf (fun i _ => i = 7) μ').sti (i := 7) rfl |>.sti (i := 7) rfl).1 _ _ (by omega) |>.trans t6
      · exact ((Sme.rf (fun i _ => i = 7) μ').sti (i := 7) rfl |>.sti (i := 7) rfl).1 _ _ (by omega) |>.trans t7
theorem ct_X7_learn (h : CI μ σ) (w : WF σ) (x y : Int32) : Ct G l 3 yX7_learn cX7_learn 4 (some .int) [.ref (G.2.2.1 0), .int x, .int y] μ (fun r μ' => r = some (.int (fLearn σ x y).1) ∧ CI μ' (fLearn σ x y).2 ∧ SmC μ μ') := by
  obtain ⟨o1, o2, o3, o4, o5, o6⟩ := id w.1.1
  refine Ct.of 1 (by decide +kernel) rfl (Nat.le_of_ble_eq_true rfl) ?_
  show V G l RX7 cX7_learn 4 _ false _ _ 0 [some (.ref _), some (.int _), some (.int _), none] [] _
  refine R_aload_n (n := 1) dX7_learn_0 rfl rfl ?_
  refine gf_X7_19 (n := 4) dX7_learn_1 rfl ?_
  refine R_iload_n (n := 5) dX7_learn_4 rfl rfl ?_
  refine iv_X7_104 (n := 8) (ct_X1_hasLock x h.2.1.1) (by decide) dX7_learn_5 rfl (Nat.le_of_ble_eq_true rfl) (fun r μ' hq => ?_)
  obtain ⟨rfl, hq⟩ := hq
  have hq := hq.symm
  subst hq
  cases hx : inR x (gC σ).2.1 with
  | false =>
    rw [show fLearn σ x y = (-1, σ) by rw [fLearn, hx]; rfl]
    refine R_if_ne_f (n := 11) dX7_learn_8 rfl rfl (by decide) ?_
    refine R_iconst (v := -1) (n := 12) dX7_learn_11 rfl rfl ?_
    refine R_iret dX7_learn_12 rfl (rfl) (⟨rfl, h, SmC.rf _⟩)
  | true =>
    obtain ⟨hxl, hxe⟩ := inR_cl (by omega) hx
    have hF : fLearn σ x y = if y < 0 ∨ nI 3 < y then (-2, σ)
    else if x.toNatClampNeg < sPsd (gS σ) ∨ sLaw (gS σ) x.toNatClampNeg = y.toNatClampNeg then (-3, σ)
    else (nI (sLaw (gS σ) x.toNatClampNeg), act σ (setLaw (gS σ) x.toNatClampNeg y.toNatClampNeg)) := by rw [fLearn, hx]; rfl
    rw [hF]
    clear hF hx
    generalize x.toNatClampNeg = k at *
    subst hxe
    refine R_if_ne_t (tgt := 13) dX7_learn_8 rfl (by decide) ?_
    refine R_iload_n (n := 14) dX7_learn_13 rfl rfl ?_
    refine R_if_lt (n := 17) (tgt := 22) dX7_learn_14 rfl rfl (fun h1 => ?_) (fun h1 => ?_)
    · rw [if_pos (Or.inl h1)]
      refine R_bipush (v := -2) (n := 24) dX7_learn_22 rfl rfl ?_
      refine R_iret dX7_learn_24 rfl (rfl) (⟨rfl, h, SmC.rf _⟩)
    · refine R_iload_n (n := 18) dX7_learn_17 rfl rfl ?_
      refine R_iconst (v := nI 3) (n := 19) dX7_learn_18 rfl rfl ?_
      refine R_icmp_le (n := 22) (tgt := 25) dX7_learn_19 rfl rfl (fun h2 => ?_) (fun h2 => ?_)
      · obtain ⟨m, hm, rfl⟩ := nI_of h1
        have hm4 : m < 4 := by rw [nI_leI hm (by omega)] at h2; omega
        rw [if_neg (fun z => z.elim h1 (fun q => absurd h2 (Int32.not_le.mpr q))), nI_clamp hm]
        have hl4 := o5 k hxl
        refine R_aload_n (n := 26) dX7_learn_25 rfl rfl ?_
        refine gf_X7_19 (n := 29) dX7_learn_26 rfl ?_
        refine gf_X7_88 (n := 32) dX7_learn_29 rfl ?_
        refine gf_X7_107 (n := 35) stB_6 dX7_learn_32 rfl ?_
        refine R_iload_n (n := 36) dX7_learn_35 rfl rfl ?_
        refine R_iald_e (n := 37) stB_6.2.2.2.2.1 (rfl) (by omega) dX7_learn_36 rfl (h.2.2.1.2.2.2.1 _ hxl) ?_
        refine R_istore_n (n := 38) dX7_learn_37 rfl (Nat.le_of_ble_eq_true rfl) (Nat.le_of_ble_eq_true rfl) ?_
        refine R_aload_n (n := 39) dX7_learn_38 rfl rfl ?_
        refine gf_X7_19 (n := 42) dX7_learn_39 rfl ?_
        refine R_iload_n (n := 43) dX7_learn_42 rfl rfl ?_
        refine iv_X7_110 (n := 46) (ct_X1_isPassed (by omega) (by omega) h.2.2.1.2.2.2.2.2.2) (by decide) dX7_learn_43 rfl (Nat.le_of_ble_eq_true rfl) (fun r μ' hq => ?_)
        obtain ⟨rfl, hq⟩ := hq
        have hq := hq.symm
        subst hq
        by_cases e1 : k < sPsd (gS σ)
        · rw [if_pos (Or.inl e1), decide_eq_true e1]
          refine R_if_ne_t (tgt := 54) dX7_learn_46 rfl (by decide) ?_
          refine R_bipush (v := -3) (n := 56) dX7_learn_54 rfl rfl ?_
          refine R_iret dX7_learn_56 rfl (rfl) (⟨rfl, h, SmC.rf _⟩)
        · rw [decide_eq_false e1]
          refine R_if_ne_f (n := 49) dX7_learn_46 rfl rfl (by decide) ?_
          refine R_iload_n (n := 50) dX7_learn_49 rfl rfl ?_
          refine R_iload_n (n := 51) dX7_learn_50 rfl rfl ?_
          by_cases e2 : sLaw (gS σ) k = m
          · rw [if_pos (Or.inr e2)]
            refine R_icmp_ne_f (n := 54) dX7_learn_51 rfl rfl (congrArg nI e2) ?_
            refine R_bipush (v := -3) (n := 56) dX7_learn_54 rfl rfl ?_
            refine R_iret dX7_learn_56 rfl (rfl) (⟨rfl, h, SmC.rf _⟩)
          · rw [if_neg (fun z => z.elim e1 e2)]
            refine R_icmp_ne_t (tgt := 57) dX7_learn_51 rfl (by rw [nI_eq (by omega) (by omega)]; omega) ?_
            refine R_aload_n (n := 58) dX7_learn_57 rfl rfl ?_
            refine gf_X7_26 (n := 61) dX7_learn_58 rfl ?_
            refine R_aload_n (n := 62) dX7_learn_61 rfl rfl ?_
            refine gf_X7_19 (n := 65) dX7_learn_62 rfl ?_
            refine gf_X7_88 (n := 68) dX7_learn_65 rfl ?_
            refine iv_X7_119 (n := 71) (ct_X0_remember h.2.2.1 o1 o2 h.2.2.2.1) (by decide) dX7_learn_68 rfl (Nat.le_of_ble_eq_true rfl) (fun r μ' hq => ?_)
            obtain ⟨rfl, r1, r2⟩ := hq
            have hS1 := h.2.2.1.kept r2 (fun i j z1 z2 => by omega)
            refine R_aload_n (n := 72) dX7_learn_71 rfl rfl ?_
            refine gf_X7_19 (n := 75) dX7_learn_72 rfl ?_
            refine gf_X7_88 (n := 78) dX7_learn_75 rfl ?_
            refine gf_X7_107 (n := 81) stB_6 dX7_learn_78 rfl ?_
            refine R_iload_n (n := 82) dX7_learn_81 rfl rfl ?_
            refine R_iload_n (n := 83) dX7_learn_82 rfl rfl ?_
            refine R_iast (n := 84) stB_6.2.2.2.2.1 (rfl) (by omega) dX7_learn_83 rfl ?_
            refine R_iload_n (n := 85) dX7_learn_84 rfl rfl ?_
            have s3 : Sme (fun i j => i = 10 ∧ j = k) μ' (sti μ' 10 k (nI m)) := (Sme.rf _ _).sti ⟨rfl, rfl⟩
            refine R_iret dX7_learn_85 rfl rfl ⟨rfl, h.act r1 r2 ?_ (s3.mono (fun i j z => by omega))⟩
            obtain ⟨t1, t2, t3, t4, t5, t6, t7⟩ := hS1
            refine ⟨fun p hp => (s3.1 _ _ (by omega)).trans (t1 p hp), fun p hp => (s3.1 _ _ (by omega)).trans (t2 p hp), fun p hp => (s3.1 _ _ (by omega)).trans (t3 p hp), fun p hp => ?_, fun e he => (s3.1 _ _ (by omega)).trans (t5 e he), (s3.1 _ _ (by omega)).trans t6, (s3.1 _ _ (by omega)).trans t7⟩
            show (sti μ' 10 k (nI m)).1 10 p = nI (updN _ _ _ p)
            rw [sti_1]
            unfold updN
            by_cases e3 : p = k
            · rw [if_pos ⟨rfl, e3⟩, if_pos e3]
            · rw [if_neg (fun z => e3 z.2), if_neg e3]; exact t4 p hp
      · rw [if_pos (Or.inr (Int32.not_le.mp h2))]
        refine R_bipush (v := -2) (n := 24) dX7_learn_22 rfl rfl ?_
        refine R_iret dX7_learn_24 rfl (rfl) (⟨rfl, h, SmC.rf _⟩)
theorem ct_X7_undo (h : CI μ σ) (w : WF σ) : Ct G l 3 yX7_undo cX7_undo 1 (some .int) [.ref (G.2.2.1 0)] μ (fun r μ' => r = some (.int (fUndo σ).1) ∧ CI μ' (fUndo σ).2 ∧ SmC μ μ') := by
  obtain ⟨o1, o2, o3, o4, o5, o6⟩ := id w.1.1
  have hA := h.2.2.2.1
  refine Ct.of 0 (by decide +kernel) rfl (Nat.le_of_ble_eq_true rfl) ?_
  show V G l RX7 cX7_undo 1 _ false _ _ 0 [some (.ref _)] [] _
  refine R_aload_n (n := 1) dX7_undo_0 rfl rfl ?_
  refine gf_X7_26 (n := 4) dX7_undo_1 rfl ?_
  refine ge_X7_140 (n := 7) dX7_undo_4 rfl (hA.2.1) ?_
  rw [fUndo]
  cases ha : gA σ with
  | zero =>
    refine R_if_ne_f (n := 10) dX7_undo_7 rfl rfl (rfl) ?_
    refine R_bipush (v := -3) (n := 12) dX7_undo_10 rfl rfl ?_
    refine R_iret dX7_undo_12 rfl (rfl) (⟨rfl, h, SmC.rf _⟩)
  | succ a =>
    rw [ha] at hA
    have h14 := hA.1
    refine R_if_ne_t (tgt := 13) dX7_undo_7 rfl (nI_ne0 (by omega) (by omega)) ?_
    refine R_aload_n (n := 14) dX7_undo_13 rfl rfl ?_
    refine gf_X7_26 (n := 17) dX7_undo_14 rfl ?_
    refine R_aload_n (n := 18) dX7_undo_17 rfl rfl ?_
    refine gf_X7_19 (n := 21) dX7_undo_18 rfl ?_
    refine gf_X7_88 (n := 24) dX7_undo_21 rfl ?_
    refine iv_X7_143 (n := 27) (ct_X0_takeBack o1 o2 hA) (by decide) dX7_undo_24 rfl (Nat.le_of_ble_eq_true rfl) (fun r μ' hq => ?_)
    obtain ⟨rfl, b1, b2, b3⟩ := hq
    refine R_aload_n (n := 28) dX7_undo_27 rfl rfl ?_
    refine gf_X7_26 (n := 31) dX7_undo_28 rfl ?_
    refine ge_X7_140 (n := 34) dX7_undo_31 rfl (b1.2.1) ?_
    refine R_iret dX7_undo_34 rfl (rfl) (⟨rfl, ⟨h.1.kept b3 (by omega) (fun k => by omega), h.2.1.kept b3 (by omega) (by omega) (fun j => by omega) (fun j => by omega), b2, b1, h.2.2.2.2.1.kept b3 (fun i j z1 z2 => by omega), by rw [b3.2]; exact h.2.2.2.2.2⟩, b3.C (fun i j z => by omega)⟩)
theorem ct_X7_keep (h : CI μ σ) (w : WF σ) (x : Int32) : Ct G l 3 yX7_keep cX7_keep 2 (some .int) [.ref (G.2.2.1 0), .int x] μ (fun r μ' => r = some (.int (fKeep σ x).1) ∧ CI μ' (fKeep σ x).2 ∧ SmC μ μ') := by
  obtain ⟨o1, o2, o3, o4, o5, o6⟩ := id w.1.1
  refine Ct.of 0 (by decide +kernel) rfl (Nat.le_of_ble_eq_true rfl) ?_
  show V G l RX7 cX7_keep 2 _ false _ _ 0 [some (.ref _), some (.int _)] [] _
  refine R_iload_n (n := 1) dX7_keep_0 rfl rfl ?_
  refine R_if_lt (n := 4) (tgt := 9) dX7_keep_1 rfl rfl (fun h1 => ?_) (fun h1 => ?_)
  · rw [show fKeep σ x = (-1, σ) by rw [fKeep, show inR x 2 = false by rw [inR, decide_eq_false (fun z => z h1)]; rfl]; rfl]
    refine R_iconst (v := -1) (n := 10) dX7_keep_9 rfl rfl ?_
    refine R_iret dX7_keep_10 rfl (rfl) (⟨rfl, h, SmC.rf _⟩)
  · refine R_iload_n (n := 5) dX7_keep_4 rfl rfl ?_
    refine R_iconst (v := nI 2) (n := 6) dX7_keep_5 rfl rfl ?_
    refine R_icmp_lt (n := 9) (tgt := 11) dX7_keep_6 rfl rfl (fun h2 => ?_) (fun h2 => ?_)
    · have hx : inR x 2 = true := by rw [inR, decide_eq_true h1, decide_eq_true (Int32.not_le.mpr h2)]; rfl
      obtain ⟨hxl, hxe⟩ := inR_cl (by omega) hx
      have hF : fKeep σ x = (nI (sPsd (gS σ)), mkG (gC σ) (gS σ) (gH' σ) (gA σ) (fun i => if i = x.toNatClampNeg then some (gS σ) else gK σ i) (gT σ) (gL σ) (gZ σ)) := by rw [fKeep, hx]; rfl
      rw [hF]
      clear hF hx
      generalize x.toNatClampNeg = k at *
      subst hxe
      refine R_aload_n (n := 12) dX7_keep_11 rfl rfl ?_
      refine gf_X7_33 (n := 15) dX7_keep_12 rfl ?_
      refine R_iload_n (n := 16) dX7_keep_15 rfl rfl ?_
      refine R_aload_n (n := 17) dX7_keep_16 rfl rfl ?_
      refine gf_X7_19 (n := 20) dX7_keep_17 rfl ?_
      refine gf_X7_88 (n := 23) dX7_keep_20 rfl ?_
      refine iv_X7_232 (n := 26) (ct_X4_put hxl h.2.2.1 o1 o2 h.2.2.2.2.1) (by decide) dX7_keep_23 rfl (Nat.le_of_ble_eq_true rfl) (fun r μ' hq => ?_)
      obtain ⟨rfl, b1, b3⟩ := hq
      have hS1 := h.2.2.1.kept b3 (fun i j z1 z2 => by omega)
      refine R_aload_n (n := 27) dX7_keep_26 rfl rfl ?_
      refine gf_X7_19 (n := 30) dX7_keep_27 rfl ?_
      refine gf_X7_88 (n := 33) dX7_keep_30 rfl ?_
      refine ge_X7_236 (n := 36) stB_6 dX7_keep_33 rfl (hS1.2.2.2.2.2.2) ?_
      refine R_iret dX7_keep_36 rfl (rfl) (⟨rfl, ⟨h.1.kept b3 (by omega) (fun k => by omega), h.2.1.kept b3 (by omega) (by omega) (fun j => by omega) (fun j => by omega), hS1, h.2.2.2.1.kept b3 (fun i j z1 z2 => by omega), b1, by rw [b3.2]; exact h.2.2.2.2.2⟩, b3.C (fun i j z => by omega)⟩)
    · rw [show fKeep σ x = (-1, σ) by rw [fKeep, show inR x 2 = false by rw [inR, decide_eq_false (p := ¬ nI 2 ≤ x) (fun z => z (Int32.not_lt.mp h2)), Bool.and_false]]; rfl]
      refine R_iconst (v := -1) (n := 10) dX7_keep_9 rfl rfl ?_
      refine R_iret dX7_keep_10 rfl (rfl) (⟨rfl, h, SmC.rf _⟩)
theorem ct_X7_again (h : CI μ σ) (w : WF σ) (x : Int32) : Ct G l 2 yX7_again cX7_again 2 (some .int) [.ref (G.2.2.1 0), .int x] μ (fun r μ' => r = some (.int (fAgain σ x).1) ∧ CI μ' (fAgain σ x).2 ∧ SmC μ μ') := by
  obtain ⟨o1, o2, o3, o4, o5, o6⟩ := id w.1.1
  refine Ct.of 0 (by decide +kernel) rfl (Nat.le_of_ble_eq_true rfl) ?_
  show V G l RX7 cX7_again 2 _ false _ _ 0 [some (.ref _), some (.int _)] [] _
  refine R_iload_n (n := 1) dX7_again_0 rfl rfl ?_
  refine R_if_lt (n := 4) (tgt := 9) dX7_again_1 rfl rfl (fun h1 => ?_) (fun h1 => ?_)
  · rw [show fAgain σ x = (-1, σ) by rw [fAgain, show inR x 2 = false by rw [inR, decide_eq_false (fun z => z h1)]; rfl]; rfl]
    refine R_iconst (v := -1) (n := 10) dX7_again_9 rfl rfl ?_
    refine R_iret dX7_again_10 rfl (rfl) (⟨rfl, h, SmC.rf _⟩)
  · refine R_iload_n (n := 5) dX7_again_4 rfl rfl ?_
    refine R_iconst (v := nI 2) (n := 6) dX7_again_5 rfl rfl ?_
    refine R_icmp_lt (n := 9) (tgt := 11) dX7_again_6 rfl rfl (fun h2 => ?_) (fun h2 => ?_)
    · have hx : inR x 2 = true := by rw [inR, decide_eq_true h1, decide_eq_true (Int32.not_le.mpr h2)]; rfl
      obtain ⟨hxl, hxe⟩ := inR_cl (by omega) hx
      have hF : fAgain σ x = match gK σ x.toNatClampNeg with
        | none => (-3, σ)
        | some T => (nI (sPsd T), mkG (gC σ) T (gH' σ) 0 (gK σ) (gT σ) (gL σ) (gZ σ)) := by rw [fAgain, hx]; rfl
      rw [hF]
      clear hF hx
      generalize x.toNatClampNeg = k at *
      subst hxe
      have hk := h.2.2.2.2.1 k hxl
      refine R_aload_n (n := 12) dX7_again_11 rfl rfl ?_
      refine gf_X7_33 (n := 15) dX7_again_12 rfl ?_
      refine gf_X7_239 (n := 18) dX7_again_15 rfl ?_
      refine R_iload_n (n := 19) dX7_again_18 rfl rfl ?_
      refine R_zald_e (n := 20) sh_118 (rfl) (by omega) dX7_again_19 rfl (hk.1) ?_
      cases hT : gK σ k with
      | none =>
        refine R_if_ne_f (n := 23) dX7_again_20 rfl rfl (rfl) ?_
        refine R_bipush (v := -3) (n := 25) dX7_again_23 rfl rfl ?_
        refine R_iret dX7_again_25 rfl (rfl) (⟨rfl, h, SmC.rf _⟩)
      | some T =>
        refine R_if_ne_t (tgt := 26) dX7_again_20 rfl (by show ¬ bi true = 0; decide) ?_
        refine R_aload_n (n := 27) dX7_again_26 rfl rfl ?_
        refine gf_X7_19 (n := 30) dX7_again_27 rfl ?_
        refine gf_X7_88 (n := 33) dX7_again_30 rfl ?_
        refine R_aload_n (n := 34) dX7_again_33 rfl rfl ?_
        refine gf_X7_33 (n := 37) dX7_again_34 rfl ?_
        refine gf_X7_243 (n := 40) dX7_again_37 rfl ?_
        refine R_iload_n (n := 41) dX7_again_40 rfl rfl ?_
        refine R_aald (n := 42) (r := (106 + 6 * k)) (by decide) sh_105 (rfl) (ids_slot _ hxl) dX7_again_41 rfl ?_
        refine iv_X7_247 (n := 45) (ct_X5_copyFrom stB_6 (stB_slot hxl) (by omega)) stB_6 (by decide) dX7_again_42 rfl (Nat.le_of_ble_eq_true rfl) (fun r μ' hq => ?_)
        obtain ⟨rfl, b1, b2⟩ := hq
        have hS1 := cst_cpy o2 o1 (by omega) (hk.2 T hT) b1
        refine R_aload_n (n := 46) dX7_again_45 rfl rfl ?_
        refine gf_X7_26 (n := 49) dX7_again_46 rfl ?_
        refine iv_X7_67 (n := 52) (ct_X0_forgetAll (h.2.2.2.1.kept b2 (fun i j z1 z2 => by omega))) (by decide) dX7_again_49 rfl (Nat.le_of_ble_eq_true rfl) (fun r μ' hq => ?_)
        obtain ⟨rfl, a1, a2⟩ := hq
        have hS2 := hS1.kept a2 (fun i j z1 z2 => by omega)
        refine R_aload_n (n := 53) dX7_again_52 rfl rfl ?_
        refine gf_X7_19 (n := 56) dX7_again_53 rfl ?_
        refine gf_X7_88 (n := 59) dX7_again_56 rfl ?_
        refine ge_X7_236 (n := 62) stB_6 dX7_again_59 rfl (hS2.2.2.2.2.2.2) ?_
        refine R_iret dX7_again_62 rfl (rfl) (⟨rfl, ⟨(h.1.kept b2 (by omega) (fun k => by omega)).kept a2 (by omega) (fun k => by omega), (h.2.1.kept b2 (by omega) (by omega) (fun j => by omega) (fun j => by omega)).kept a2 (by omega) (by omega) (fun j => by omega) (fun j => by omega), hS2, a1 _ _, (h.2.2.2.2.1.kept b2 (fun i j z1 z2 => by omega)).kept a2 (fun i j z1 z2 => by omega), by rw [a2.2, b2.2]; exact h.2.2.2.2.2⟩, (b2.C (fun i j z => by omega)).tr (a2.C (fun i j z => by omega))⟩)
    · rw [show fAgain σ x = (-1, σ) by rw [fAgain, show inR x 2 = false by rw [inR, decide_eq_false (p := ¬ nI 2 ≤ x) (fun z => z (Int32.not_lt.mp h2)), Bool.and_false]]; rfl]
      refine R_iconst (v := -1) (n := 10) dX7_again_9 rfl rfl ?_
      refine R_iret dX7_again_10 rfl (rfl) (⟨rfl, h, SmC.rf _⟩)
end PU

