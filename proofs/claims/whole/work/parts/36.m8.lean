/-! THE MODEL's acts -/
section M8
variable {G : Gm} {l : Launch} {μ : Mem} {σ : GS} {C : CF} {S : ST} {z : Nat}
theorem m0r (h1 : ∀ p, p < z → μ.1 128 p = nI (sRow S p)) (h2 : ∀ j, j < C.1 → μ.1 128 (6 + j) = sHrs S j) (h3 : ∀ k, k < C.2.1 → μ.1 128 (12 + k) = nI (sLaw S k)) (h4 : ∀ j, j < C.1 → μ.1 128 (17 + j) = nI (sTea S j)) (h5 : ∀ e, e < 30 → μ.1 128 (23 + e) = sGvn S e) (h6 : μ.1 128 53 = nI (sPsd S)) : MSt μ 128 0 z C S :=
  ⟨fun p hp => by rw [Nat.zero_add]; exact h1 p hp, h2, h3, h4, h5, h6⟩
theorem mst_tea0 {j t : Nat} (h : MSt μ 128 0 z C S) (hC : C.1 ≤ 6 ∧ C.2.1 ≤ 5 ∧ z ≤ 6) (hj : j < 6) : MSt (sti μ 128 (17 + j) (nI t)) 128 0 z C (setT S (updN (sTea S) j t)) := by
  obtain ⟨t1, t2, t3, t4, t5, t6⟩ := m0 h
  refine m0r (fun p hp => ?_) (fun p hp => ?_) (fun p hp => ?_) (fun p hp => ?_) (fun e he => ?_) ?_
  · rw [sti_1_pf _ _ _ _ _ _ (by omega)]; exact t1 p hp
  · rw [sti_1_pf _ _ _ _ _ _ (by omega)]; exact t2 p hp
  · rw [sti_1_pf _ _ _ _ _ _ (by omega)]; exact t3 p hp
  · rw [sti_1]
    show _ = nI (updN _ _ _ p)
    unfold updN
    by_cases q : p = j
    · rw [if_pos ⟨rfl, by omega⟩, if_pos q]
    · rw [if_neg (by omega), if_neg q]; exact t4 p hp
  · rw [sti_1_pf _ _ _ _ _ _ (by omega)]; exact t5 e he
  · rw [sti_1_pf _ _ _ _ _ _ (by omega)]; exact t6
theorem mst_add0 {j k : Nat} {x : Int32} (h : MSt μ 128 0 z C S) (hC : C.1 ≤ 6 ∧ C.2.1 ≤ 5 ∧ z ≤ 6) (hj : j < 6) (hk : k < 5) : MSt (sti μ 128 (23 + 6 * k + j) (μ.1 128 (23 + 6 * k + j) + x)) 128 0 z C (addE S (k * 6 + j) x) := by
  obtain ⟨t1, t2, t3, t4, t5, t6⟩ := m0 h
  refine m0r (fun p hp => ?_) (fun p hp => ?_) (fun p hp => ?_) (fun p hp => ?_) (fun e he => ?_) ?_
  · rw [sti_1_pf _ _ _ _ _ _ (by omega)]; exact t1 p hp
  · rw [sti_1_pf _ _ _ _ _ _ (by omega)]; exact t2 p hp
  · rw [sti_1_pf _ _ _ _ _ _ (by omega)]; exact t3 p hp
  · rw [sti_1_pf _ _ _ _ _ _ (by omega)]; exact t4 p hp
  · rw [sti_1]
    show _ = if e = k * 6 + j then sGvn S e + x else sGvn S e
    by_cases q : e = k * 6 + j
    · rw [if_pos ⟨rfl, by omega⟩, if_pos q, show 23 + 6 * k + j = 23 + e by omega, t5 e he]
    · rw [if_neg (by omega), if_neg q]; exact t5 e he
  · rw [sti_1_pf _ _ _ _ _ _ (by omega)]; exact t6
theorem ct_X8_barge (h : MI μ σ) (w : WF σ) (x y : Int32) : Ct G l 3 yX8_barge cX8_barge 3 (some .int) [.ref (G.2.2.1 125), .int x, .int y] μ (fun r μ' => r = some (.int (aBarge σ x y)) ∧ Sme Qrm μ μ') := by
  obtain ⟨o1, o2, o3, o4, o5, o6⟩ := id w.1.1
  obtain ⟨n1, n2, n3, n4, n5, n6⟩ := m0 h.2.2.1
  have hM := h.2.1
  refine Ct.of 0 (by decide +kernel) rfl (Nat.le_of_ble_eq_true rfl) ?_
  show V G l RX8 cX8_barge 3 _ false _ _ 0 [some (.ref _), some (.int _), some (.int _)] [] _
  refine R_aload_n (n := 1) dX8_barge_0 rfl rfl ?_
  refine R_iload_n (n := 2) dX8_barge_1 rfl rfl ?_
  refine iv_X8_89 (n := 5) (ct_X8_isBarge x hM.2.1 (by omega)) (by decide) dX8_barge_2 rfl (Nat.le_of_ble_eq_true rfl) (fun r μ' hq => ?_)
  obtain ⟨rfl, hq⟩ := hq
  have hq := hq.symm
  subst hq
  cases hx : inR x (gC σ).1 with
  | false =>
    refine R_if_ne_f (n := 8) dX8_barge_5 rfl rfl (by decide) ?_
    refine R_iconst (v := -1) (n := 9) dX8_barge_8 rfl rfl ?_
    refine R_iret dX8_barge_9 rfl (rfl) (⟨by rw [aBarge, hx]; rfl, Sme.rf _ _⟩)
  | true =>
    obtain ⟨hxl, hxe⟩ := inR_cl (by omega) hx
    rw [aBarge, hx, if_pos rfl]
    clear hx
    generalize x.toNatClampNeg = j at *
    subst hxe
    refine R_if_ne_t (tgt := 10) dX8_barge_5 rfl (by decide) ?_
    refine R_iload_n (n := 11) dX8_barge_10 rfl rfl ?_
    by_cases e0 : y = nI 0
    · rw [if_pos e0, e0]
      refine R_tableIn (off := 33) (tgt := 44) dX8_barge_11 (by decide) (by decide) (by decide) rfl ?_
      refine R_aload_n (n := 45) dX8_barge_44 rfl rfl ?_
      refine gf_X8_7 (n := 48) dX8_barge_45 rfl ?_
      refine R_iload_n (n := 49) dX8_barge_48 rfl rfl ?_
      refine R_iald (n := 50) sh_126 (rfl) (by omega) dX8_barge_49 rfl ?_
      refine R_iret dX8_barge_50 rfl rfl ⟨congrArg (fun z => some (Value.int z)) (hM.2.2.1 _ hxl), Sme.rf _ _⟩
    rw [if_neg e0]
    by_cases e1 : y = nI 1
    · rw [if_pos e1, e1]
      refine R_tableIn (off := 40) (tgt := 51) dX8_barge_11 (by decide) (by decide) (by decide) rfl ?_
      refine R_aload_n (n := 52) dX8_barge_51 rfl rfl ?_
      refine gf_X8_13 (n := 55) dX8_barge_52 rfl ?_
      refine R_iload_n (n := 56) dX8_barge_55 rfl rfl ?_
      refine R_iald (n := 57) sh_127 (rfl) (by omega) dX8_barge_56 rfl ?_
      refine R_iret dX8_barge_57 rfl rfl ⟨congrArg (fun z => some (Value.int z)) (hM.2.2.2 _ hxl), Sme.rf _ _⟩
    rw [if_neg e1]
    by_cases e2 : y = nI 2
    · rw [if_pos e2, e2]
      refine R_tableIn (off := 47) (tgt := 58) dX8_barge_11 (by decide) (by decide) (by decide) rfl ?_
      refine R_aload_n (n := 59) dX8_barge_58 rfl rfl ?_
      refine gf_X8_16 (n := 62) dX8_barge_59 rfl ?_
      refine R_bipush (v := nI 17) (n := 64) dX8_barge_62 rfl rfl ?_
      refine R_iload_n (n := 65) dX8_barge_64 rfl rfl ?_
      refine R_iadd_n (n := 66) dX8_barge_65 rfl ?_
      refine R_iald (n := 67) sh_128 (rfl) (by omega) dX8_barge_66 rfl ?_
      refine R_iret dX8_barge_67 rfl rfl ⟨congrArg (fun z => some (Value.int z)) (n4 _ hxl), Sme.rf _ _⟩
    rw [if_neg e2]
    by_cases e3 : y = nI 3
    · rw [if_pos e3, e3]
      refine R_tableIn (off := 57) (tgt := 68) dX8_barge_11 (by decide) (by decide) (by decide) rfl ?_
      obtain ⟨p1, p2, p3⟩ := pos_spec w.1.2.1 hxl
      refine R_aload_n (n := 69) dX8_barge_68 rfl rfl ?_
      refine R_iconst (v := nI 0) (n := 70) dX8_barge_69 rfl rfl ?_
      refine R_iload_n (n := 71) dX8_barge_70 rfl rfl ?_
      refine R_aload_n (n := 72) dX8_barge_71 rfl rfl ?_
      refine ge_X8_83 (n := 75) dX8_barge_72 rfl (hM.2.1) ?_
      refine iv_X8_93 (n := 78) (ct_X8_placeOf (lv := 0) (by omega) o1 h.2.2.1.1 (fun p hp => Nat.lt_of_lt_of_le (o4 p hp) o1) (by omega) p1 p2 (pos_all w.1.2.1 hxl)) (by decide) dX8_barge_75 rfl (Nat.le_of_ble_eq_true rfl) (fun r μ' hq => ?_)
      obtain ⟨rfl, hq⟩ := hq
      have hq := hq.symm
      subst hq
      refine R_iret dX8_barge_78 rfl (rfl) (⟨rfl, Sme.rf _ _⟩)
    rw [if_neg e3]
    by_cases e4 : y = nI 4
    · rw [if_pos e4, e4]
      refine R_tableIn (off := 68) (tgt := 79) dX8_barge_11 (by decide) (by decide) (by decide) rfl ?_
      refine R_aload_n (n := 80) dX8_barge_79 rfl rfl ?_
      refine gf_X8_16 (n := 83) dX8_barge_80 rfl ?_
      refine R_bipush (v := nI 6) (n := 85) dX8_barge_83 rfl rfl ?_
      refine R_iload_n (n := 86) dX8_barge_85 rfl rfl ?_
      refine R_iadd_n (n := 87) dX8_barge_86 rfl ?_
      refine R_iald (n := 88) sh_128 (rfl) (by omega) dX8_barge_87 rfl ?_
      refine R_iret dX8_barge_88 rfl rfl ⟨congrArg (fun z => some (Value.int z)) (n2 _ hxl), Sme.rf _ _⟩
    rw [if_neg e4]
    refine R_tableOut (tgt := 89) dX8_barge_11 (tbl_out (n := 4) (by omega) (fun k hk z => by rcases (show k = 0 ∨ k = 1 ∨ k = 2 ∨ k = 3 ∨ k = 4 by omega) with q | q | q | q | q <;> subst q <;> contradiction)) rfl ?_
    refine R_bipush (v := -2) (n := 91) dX8_barge_89 rfl rfl ?_
    refine R_iret dX8_barge_91 rfl (rfl) (⟨rfl, Sme.rf _ _⟩)
theorem ct_X8_lock (h : MI μ σ) (w : WF σ) (x y : Int32) : Ct G l 3 yX8_lock cX8_lock 3 (some .int) [.ref (G.2.2.1 125), .int x, .int y] μ (fun r μ' => r = some (.int (aLock σ x y)) ∧ Sme Qrm μ μ') := by
  obtain ⟨o1, o2, o3, o4, o5, o6⟩ := id w.1.1
  obtain ⟨n1, n2, n3, n4, n5, n6⟩ := m0 h.2.2.1
  have hM := h.2.1
  refine Ct.of 0 (by decide +kernel) rfl (Nat.le_of_ble_eq_true rfl) ?_
  show V G l RX8 cX8_lock 3 _ false _ _ 0 [some (.ref _), some (.int _), some (.int _)] [] _
  refine R_aload_n (n := 1) dX8_lock_0 rfl rfl ?_
  refine R_iload_n (n := 2) dX8_lock_1 rfl rfl ?_
  refine iv_X8_97 (n := 5) (ct_X8_isLock x hM.1 (by omega)) (by decide) dX8_lock_2 rfl (Nat.le_of_ble_eq_true rfl) (fun r μ' hq => ?_)
  obtain ⟨rfl, hq⟩ := hq
  have hq := hq.symm
  subst hq
  cases hx : inR x (gC σ).2.1 with
  | false =>
    refine R_if_ne_f (n := 8) dX8_lock_5 rfl rfl (by decide) ?_
    refine R_iconst (v := -1) (n := 9) dX8_lock_8 rfl rfl ?_
    refine R_iret dX8_lock_9 rfl (rfl) (⟨by rw [aLock, hx]; rfl, Sme.rf _ _⟩)
  | true =>
    obtain ⟨hxl, hxe⟩ := inR_cl (by omega) hx
    rw [aLock, hx, if_pos rfl]
    clear hx
    generalize x.toNatClampNeg = j at *
    subst hxe
    refine R_if_ne_t (tgt := 10) dX8_lock_5 rfl (by decide) ?_
    refine R_iload_n (n := 11) dX8_lock_10 rfl rfl ?_
    by_cases e0 : y = nI 0
    · rw [if_pos e0, e0]
      refine R_tableIn (off := 25) (tgt := 36) dX8_lock_11 (by decide) (by decide) (by decide) rfl ?_
      refine R_aload_n (n := 37) dX8_lock_36 rfl rfl ?_
      refine gf_X8_16 (n := 40) dX8_lock_37 rfl ?_
      refine R_bipush (v := nI 12) (n := 42) dX8_lock_40 rfl rfl ?_
      refine R_iload_n (n := 43) dX8_lock_42 rfl rfl ?_
      refine R_iadd_n (n := 44) dX8_lock_43 rfl ?_
      refine R_iald (n := 45) sh_128 (rfl) (by omega) dX8_lock_44 rfl ?_
      refine R_iret dX8_lock_45 rfl rfl ⟨congrArg (fun z => some (Value.int z)) (n3 _ hxl), Sme.rf _ _⟩
    rw [if_neg e0]
    by_cases e1 : y = nI 1
    · rw [if_pos e1, e1]
      refine R_tableIn (off := 35) (tgt := 46) dX8_lock_11 (by decide) (by decide) (by decide) rfl ?_
      refine R_iload_n (n := 47) dX8_lock_46 rfl rfl ?_
      refine R_aload_n (n := 48) dX8_lock_47 rfl rfl ?_
      refine gf_X8_16 (n := 51) dX8_lock_48 rfl ?_
      refine R_bipush (v := nI 53) (n := 53) dX8_lock_51 rfl rfl ?_
      refine R_iald_e (n := 54) sh_128 (rfl) (by omega) dX8_lock_53 rfl (n6) ?_
      by_cases e : j < sPsd (gS σ)
      · rw [decide_eq_true e]
        refine R_icmp_ge_f (n := 57) dX8_lock_54 rfl rfl (by rw [nI_leI (by omega) (by omega)]; omega) ?_
        refine R_iconst (v := nI 1) (n := 58) dX8_lock_57 rfl rfl ?_
        refine R_goto (tgt := 62) dX8_lock_58 rfl ?_
        refine R_iret dX8_lock_62 rfl (rfl) (⟨rfl, Sme.rf _ _⟩)
      · rw [decide_eq_false e]
        refine R_icmp_ge_t (tgt := 61) dX8_lock_54 rfl (by rw [nI_leI (by omega) (by omega)]; omega) ?_
        refine R_iconst (v := nI 0) (n := 62) dX8_lock_61 rfl rfl ?_
        refine R_iret dX8_lock_62 rfl (rfl) (⟨rfl, Sme.rf _ _⟩)
    rw [if_neg e1]
    by_cases e2 : y = nI 2
    · rw [if_pos e2, e2]
      refine R_tableIn (off := 52) (tgt := 63) dX8_lock_11 (by decide) (by decide) (by decide) rfl ?_
      refine R_aload_n (n := 64) dX8_lock_63 rfl rfl ?_
      refine R_iload_n (n := 65) dX8_lock_64 rfl rfl ?_
      refine iv_X8_100 (n := 68) (ct_X8_givenAt (by omega)) (by decide) dX8_lock_65 rfl (Nat.le_of_ble_eq_true rfl) (fun r μ' hq => ?_)
      obtain ⟨rfl, hq⟩ := hq
      have hq := hq.symm
      subst hq
      refine R_iret dX8_lock_68 rfl rfl ⟨congrArg (fun z => some (Value.int z)) (sm_congr (fun i hi => ?_)), Sme.rf _ _⟩
      rw [show 23 + 6 * j + i = 23 + (j * 6 + i) by omega]
      exact n5 _ (by omega)
    rw [if_neg e2]
    refine R_tableOut (tgt := 69) dX8_lock_11 (tbl_out (n := 2) (by omega) (fun k hk z => by rcases (show k = 0 ∨ k = 1 ∨ k = 2 by omega) with q | q | q <;> subst q <;> contradiction)) rfl ?_
    refine R_bipush (v := -2) (n := 71) dX8_lock_69 rfl rfl ?_
    refine R_iret dX8_lock_71 rfl (rfl) (⟨rfl, Sme.rf _ _⟩)
theorem ct_X8_pass (h : MI μ σ) (w : WF σ) : Ct G l 3 yX8_pass cX8_pass 1 (some .int) [.ref (G.2.2.1 125)] μ (fun r μ' => r = some (.int (fPass σ).1) ∧ MI μ' (fPass σ).2 ∧ SmM μ μ') := by
  obtain ⟨o1, o2, o3, o4, o5, o6⟩ := id w.1.1
  obtain ⟨n1, n2, n3, n4, n5, n6⟩ := m0 h.2.2.1
  have hM := h.2.1
  refine Ct.of 0 (by decide +kernel) rfl (Nat.le_of_ble_eq_true rfl) ?_
  show V G l RX8 cX8_pass 1 _ false _ _ 0 [some (.ref _)] [] _
  refine R_aload_n (n := 1) dX8_pass_0 rfl rfl ?_
  refine gf_X8_16 (n := 4) dX8_pass_1 rfl ?_
  refine R_bipush (v := nI 53) (n := 6) dX8_pass_4 rfl rfl ?_
  refine R_iald_e (n := 7) sh_128 (rfl) (by omega) dX8_pass_6 rfl (n6) ?_
  refine R_aload_n (n := 8) dX8_pass_7 rfl rfl ?_
  refine ge_X8_50 (n := 11) dX8_pass_8 rfl (hM.1) ?_
  by_cases e : sPsd (gS σ) = (gC σ).2.1
  · rw [show fPass σ = (-3, σ) by rw [fPass, if_pos e]]
    refine R_icmp_ne_f (n := 14) dX8_pass_11 rfl rfl (by rw [e]) ?_
    refine R_bipush (v := -3) (n := 16) dX8_pass_14 rfl rfl ?_
    refine R_iret dX8_pass_16 rfl (rfl) (⟨rfl, h, SmM.rf _⟩)
  · rw [show fPass σ = (fig (sRow (pass1 (gC σ) (gC σ).1 (gS σ))) (gC σ).1, _) by rw [fPass, if_neg e]]
    refine R_icmp_ne_t (tgt := 17) dX8_pass_11 rfl (by rw [nI_eq (by omega) (by omega)]; omega) ?_
    refine R_aload_n (n := 18) dX8_pass_17 rfl rfl ?_
    refine iv_X8_114 (n := 21) (ct_X8_keepAct h.2.2.1 ⟨o1, o2⟩ h.2.2.2.1) (by decide) dX8_pass_18 rfl (Nat.le_of_ble_eq_true rfl) (fun r μ' hq => ?_)
    obtain ⟨rfl, r1, r2⟩ := hq
    have hM1 := hM.kept r2 (by omega) (by omega) (fun j => by omega) (fun j => by omega)
    have hS1 := h.2.2.1.kept ⟨o1, o2, o1⟩ r2 (fun j z1 z2 => by omega)
    refine R_aload_n (n := 22) dX8_pass_21 rfl rfl ?_
    refine R_iconst (v := nI 0) (n := 23) dX8_pass_22 rfl rfl ?_
    refine R_aload_n (n := 24) dX8_pass_23 rfl rfl ?_
    refine ge_X8_83 (n := 27) dX8_pass_24 rfl (hM1.2.1) ?_
    refine iv_X8_117 (n := 30) (ct_X8_passOn (lv := 0) (w0 := fun j => μ'.1 132 j) (by omega) hM1 hS1 (fun j _ => rfl) w.1.1 (by omega)) (by decide) dX8_pass_27 rfl (Nat.le_of_ble_eq_true rfl) (fun r μ' hq => ?_)
    obtain ⟨rfl, g1, g3, g2⟩ := hq
    have hM2 := hM1.kept g2 (by omega) (by omega) (fun j => by omega) (fun j => by omega)
    refine R_aload_n (n := 31) dX8_pass_30 rfl rfl ?_
    refine R_iconst (v := nI 0) (n := 32) dX8_pass_31 rfl rfl ?_
    refine R_aload_n (n := 33) dX8_pass_32 rfl rfl ?_
    refine ge_X8_83 (n := 36) dX8_pass_33 rfl (hM2.2.1) ?_
    refine iv_X8_121 (n := 39) (ct_X8_figuresOf (lv := 0) (by omega) o1 g1.1) (by decide) dX8_pass_36 rfl (Nat.le_of_ble_eq_true rfl) (fun r μ' hq => ?_)
    obtain ⟨rfl, hq⟩ := hq
    have hq := hq.symm
    subst hq
    refine R_iret dX8_pass_39 rfl (rfl) (⟨rfl, h.act w r1 r2 g1 (g2.mono (fun i j z => by omega))⟩)
theorem ct_X8_give (h : MI μ σ) (w : WF σ) (x y : Int32) : Ct G l 3 yX8_give cX8_give 3 (some .int) [.ref (G.2.2.1 125), .int x, .int y] μ (fun r μ' => r = some (.int (fGive σ x y).1) ∧ MI μ' (fGive σ x y).2 ∧ SmM μ μ') := by
  obtain ⟨o1, o2, o3, o4, o5, o6⟩ := id w.1.1
  obtain ⟨n1, n2, n3, n4, n5, n6⟩ := m0 h.2.2.1
  have hM := h.2.1
  refine Ct.of 0 (by decide +kernel) rfl (Nat.le_of_ble_eq_true rfl) ?_
  show V G l RX8 cX8_give 3 _ false _ _ 0 [some (.ref _), some (.int _), some (.int _)] [] _
  refine R_aload_n (n := 1) dX8_give_0 rfl rfl ?_
  refine R_iload_n (n := 2) dX8_give_1 rfl rfl ?_
  refine iv_X8_89 (n := 5) (ct_X8_isBarge x hM.2.1 (by omega)) (by decide) dX8_give_2 rfl (Nat.le_of_ble_eq_true rfl) (fun r μ' hq => ?_)
  obtain ⟨rfl, hq⟩ := hq
  have hq := hq.symm
  subst hq
  cases hx : inR x (gC σ).1 with
  | false =>
    rw [show fGive σ x y = (-1, σ) by rw [fGive, hx]; rfl]
    refine R_if_eq_t (tgt := 16) dX8_give_5 rfl (by decide) ?_
    refine R_iconst (v := -1) (n := 17) dX8_give_16 rfl rfl ?_
    refine R_iret dX8_give_17 rfl (rfl) (⟨rfl, h, SmM.rf _⟩)
  | true =>
    refine R_if_eq_f (n := 8) dX8_give_5 rfl rfl (by decide) ?_
    refine R_aload_n (n := 9) dX8_give_8 rfl rfl ?_
    refine R_iload_n (n := 10) dX8_give_9 rfl rfl ?_
    refine iv_X8_97 (n := 13) (ct_X8_isLock y hM.1 (by omega)) (by decide) dX8_give_10 rfl (Nat.le_of_ble_eq_true rfl) (fun r μ' hq => ?_)
    obtain ⟨rfl, hq⟩ := hq
    have hq := hq.symm
    subst hq
    cases hy : inR y (gC σ).2.1 with
    | false =>
      rw [show fGive σ x y = (-1, σ) by rw [fGive, hx, hy]; rfl]
      refine R_if_ne_f (n := 16) dX8_give_13 rfl rfl (by decide) ?_
      refine R_iconst (v := -1) (n := 17) dX8_give_16 rfl rfl ?_
      refine R_iret dX8_give_17 rfl (rfl) (⟨rfl, h, SmM.rf _⟩)
    | true =>
      obtain ⟨hxl, hxe⟩ := inR_cl (by omega) hx
      obtain ⟨hyl, hye⟩ := inR_cl (by omega) hy
      have hF : fGive σ x y = if sTea (gS σ) x.toNatClampNeg = 0 ∨ y.toNatClampNeg < sPsd (gS σ) then (-3, σ)
    else (sGvn (gS σ) (y.toNatClampNeg * 6 + x.toNatClampNeg) + nI 1, act σ (addE (setT (gS σ) (updN (sTea (gS σ)) x.toNatClampNeg (sTea (gS σ) x.toNatClampNeg - 1))) (y.toNatClampNeg * 6 + x.toNatClampNeg) (nI 1))) := by rw [fGive, hx, hy]; rfl
      rw [hF]
      clear hF hx hy
      generalize x.toNatClampNeg = j at *
      generalize y.toNatClampNeg = k at *
      subst hxe
      subst hye
      have ht := w.1.2.2 j hxl
      refine R_if_ne_t (tgt := 18) dX8_give_13 rfl (by decide) ?_
      refine R_aload_n (n := 19) dX8_give_18 rfl rfl ?_
      refine gf_X8_16 (n := 22) dX8_give_19 rfl ?_
      refine R_bipush (v := nI 17) (n := 24) dX8_give_22 rfl rfl ?_
      refine R_iload_n (n := 25) dX8_give_24 rfl rfl ?_
      refine R_iadd_n (n := 26) dX8_give_25 rfl ?_
      refine R_iald_e (n := 27) sh_128 (rfl) (by omega) dX8_give_26 rfl (n4 j hxl) ?_
      by_cases e1 : sTea (gS σ) j = 0
      · rw [if_pos (Or.inl e1)]
        refine R_if_eq_t (tgt := 41) dX8_give_27 rfl (by rw [e1]; decide) ?_
        refine R_bipush (v := -3) (n := 43) dX8_give_41 rfl rfl ?_
        refine R_iret dX8_give_43 rfl (rfl) (⟨rfl, h, SmM.rf _⟩)
      · refine R_if_eq_f (n := 30) dX8_give_27 rfl rfl (nI_ne0 (by omega) (by omega)) ?_
        refine R_iload_n (n := 31) dX8_give_30 rfl rfl ?_
        refine R_aload_n (n := 32) dX8_give_31 rfl rfl ?_
        refine gf_X8_16 (n := 35) dX8_give_32 rfl ?_
        refine R_bipush (v := nI 53) (n := 37) dX8_give_35 rfl rfl ?_
        refine R_iald_e (n := 38) sh_128 (rfl) (by omega) dX8_give_37 rfl (n6) ?_
        by_cases e2 : k < sPsd (gS σ)
        · rw [if_pos (Or.inr e2)]
          refine R_icmp_ge_f (n := 41) dX8_give_38 rfl rfl (by rw [nI_leI (by omega) (by omega)]; omega) ?_
          refine R_bipush (v := -3) (n := 43) dX8_give_41 rfl rfl ?_
          refine R_iret dX8_give_43 rfl (rfl) (⟨rfl, h, SmM.rf _⟩)
        · rw [if_neg (fun z => z.elim e1 e2)]
          refine R_icmp_ge_t (tgt := 44) dX8_give_38 rfl (by rw [nI_leI (by omega) (by omega)]; omega) ?_
          refine R_aload_n (n := 45) dX8_give_44 rfl rfl ?_
          refine iv_X8_114 (n := 48) (ct_X8_keepAct h.2.2.1 ⟨o1, o2⟩ h.2.2.2.1) (by decide) dX8_give_45 rfl (Nat.le_of_ble_eq_true rfl) (fun r μ' hq => ?_)
          obtain ⟨rfl, r1, r2⟩ := hq
          have hS1 := h.2.2.1.kept ⟨o1, o2, o1⟩ r2 (fun j z1 z2 => by omega)
          obtain ⟨q1, q2, q3, q4, q5, q6⟩ := m0 hS1
          have hT1 := mst_tea0 (t := sTea (gS σ) j - 1) hS1 ⟨o1, o2, o1⟩ (show j < 6 by omega)
          have hT2 := mst_add0 (x := nI 1) hT1 ⟨o1, o2, o1⟩ (show j < 6 by omega) (show k < 5 by omega)
          have s2 : Sme (fun i j => (i = 128 ∧ j < 54) ∨ i = 132) μ' (sti μ' 128 (17 + j) (nI (sTea (gS σ) j - 1))) := (Sme.rf _ _).sti (by omega)
          have v0 : (sti μ' 128 (17 + j) (nI (sTea (gS σ) j - 1))).1 128 (23 + 6 * k + j) = sGvn (gS σ) (k * 6 + j) := by
            have := (m0 hT1).2.2.2.2.1 (k * 6 + j) (by omega)
            rw [show 23 + 6 * k + j = 23 + (k * 6 + j) by omega]
            exact this
          refine R_aload_n (n := 49) dX8_give_48 rfl rfl ?_
          refine gf_X8_16 (n := 52) dX8_give_49 rfl ?_
          refine R_bipush (v := nI 17) (n := 54) dX8_give_52 rfl rfl ?_
          refine R_iload_n (n := 55) dX8_give_54 rfl rfl ?_
          refine R_iadd_n (n := 56) dX8_give_55 rfl ?_
          refine R_dup2 (n := 57) dX8_give_56 rfl rfl rfl ?_
          refine R_iald_e (n := 58) sh_128 (rfl) (by omega) dX8_give_57 rfl (q4 j hxl) ?_
          refine R_iconst (v := nI 1) (n := 59) dX8_give_58 rfl rfl ?_
          refine R_isub_n (n := 60) dX8_give_59 ((by omega)) rfl ?_
          refine R_iast (n := 61) sh_128 (rfl) (by omega) dX8_give_60 rfl ?_
          refine R_aload_n (n := 62) dX8_give_61 rfl rfl ?_
          refine gf_X8_16 (n := 65) dX8_give_62 rfl ?_
          refine R_bipush (v := nI 23) (n := 67) dX8_give_65 rfl rfl ?_
          refine R_bipush (v := nI 6) (n := 69) dX8_give_67 rfl rfl ?_
          refine R_iload_n (n := 70) dX8_give_69 rfl rfl ?_
          refine R_imul_n (n := 71) dX8_give_70 rfl ?_
          refine R_iadd_n (n := 72) dX8_give_71 rfl ?_
          refine R_iload_n (n := 73) dX8_give_72 rfl rfl ?_
          refine R_iadd_n (n := 74) dX8_give_73 rfl ?_
          refine R_dup2 (n := 75) dX8_give_74 rfl rfl rfl ?_
          refine R_iald (n := 76) sh_128 (rfl) (by omega) dX8_give_75 rfl ?_
          refine R_iconst (v := nI 1) (n := 77) dX8_give_76 rfl rfl ?_
          refine R_iadd (n := 78) dX8_give_77 rfl ?_
          refine R_iast (n := 79) sh_128 (rfl) (by omega) dX8_give_78 rfl ?_
          refine R_aload_n (n := 80) dX8_give_79 rfl rfl ?_
          refine gf_X8_16 (n := 83) dX8_give_80 rfl ?_
          refine R_bipush (v := nI 23) (n := 85) dX8_give_83 rfl rfl ?_
          refine R_bipush (v := nI 6) (n := 87) dX8_give_85 rfl rfl ?_
          refine R_iload_n (n := 88) dX8_give_87 rfl rfl ?_
          refine R_imul_n (n := 89) dX8_give_88 rfl ?_
          refine R_iadd_n (n := 90) dX8_give_89 rfl ?_
          refine R_iload_n (n := 91) dX8_give_90 rfl rfl ?_
          refine R_iadd_n (n := 92) dX8_give_91 rfl ?_
          refine R_iald (n := 93) sh_128 (rfl) (by omega) dX8_give_92 rfl ?_
          refine R_iret dX8_give_93 rfl rfl ⟨?_, h.act w r1 r2 hT2 (s2.sti (by omega))⟩
          rw [sti_1_eq, v0]
theorem ct_X8_letBy (h : MI μ σ) (w : WF σ) (x : Int32) : Ct G l 3 yX8_letBy cX8_letBy 3 (some .int) [.ref (G.2.2.1 125), .int x] μ (fun r μ' => r = some (.int (fLetBy σ x).1) ∧ MI μ' (fLetBy σ x).2 ∧ SmM μ μ') := by
  obtain ⟨o1, o2, o3, o4, o5, o6⟩ := id w.1.1
  obtain ⟨n1, n2, n3, n4, n5, n6⟩ := m0 h.2.2.1
  have hM := h.2.1
  refine Ct.of 1 (by decide +kernel) rfl (Nat.le_of_ble_eq_true rfl) ?_
  show V G l RX8 cX8_letBy 3 _ false _ _ 0 [some (.ref _), some (.int _), none] [] _
  refine R_aload_n (n := 1) dX8_letBy_0 rfl rfl ?_
  refine R_iload_n (n := 2) dX8_letBy_1 rfl rfl ?_
  refine iv_X8_89 (n := 5) (ct_X8_isBarge x hM.2.1 (by omega)) (by decide) dX8_letBy_2 rfl (Nat.le_of_ble_eq_true rfl) (fun r μ' hq => ?_)
  obtain ⟨rfl, hq⟩ := hq
  have hq := hq.symm
  subst hq
  cases hx : inR x (gC σ).1 with
  | false =>
    rw [show fLetBy σ x = (-1, σ) by rw [fLetBy, hx]; rfl]
    refine R_if_ne_f (n := 8) dX8_letBy_5 rfl rfl (by decide) ?_
    refine R_iconst (v := -1) (n := 9) dX8_letBy_8 rfl rfl ?_
    refine R_iret dX8_letBy_9 rfl (rfl) (⟨rfl, h, SmM.rf _⟩)
  | true =>
    obtain ⟨hxl, hxe⟩ := inR_cl (by omega) hx
    have hF : fLetBy σ x = if (gC σ).1 - 1 ≤ posF (sRow (gS σ)) x.toNatClampNeg (gC σ).1 then (-3, σ)
    else (nI (posF (sRow (gS σ)) x.toNatClampNeg (gC σ).1 + 1), act σ (rowS (gS σ) (swp (sRow (gS σ)) (posF (sRow (gS σ)) x.toNatClampNeg (gC σ).1)))) := by rw [fLetBy, hx]; rfl
    rw [hF]
    clear hF hx
    generalize x.toNatClampNeg = j at *
    subst hxe
    obtain ⟨p1, p2, p3⟩ := pos_spec w.1.2.1 hxl
    refine R_if_ne_t (tgt := 10) dX8_letBy_5 rfl (by decide) ?_
    refine R_aload_n (n := 11) dX8_letBy_10 rfl rfl ?_
    refine R_iconst (v := nI 0) (n := 12) dX8_letBy_11 rfl rfl ?_
    refine R_iload_n (n := 13) dX8_letBy_12 rfl rfl ?_
    refine R_aload_n (n := 14) dX8_letBy_13 rfl rfl ?_
    refine ge_X8_83 (n := 17) dX8_letBy_14 rfl (hM.2.1) ?_
    refine iv_X8_93 (n := 20) (ct_X8_placeOf (lv := 0) (by omega) o1 h.2.2.1.1 (fun p hp => Nat.lt_of_lt_of_le (o4 p hp) o1) (by omega) p1 p2 (pos_all w.1.2.1 hxl)) (by decide) dX8_letBy_17 rfl (Nat.le_of_ble_eq_true rfl) (fun r μ' hq => ?_)
    obtain ⟨rfl, hq⟩ := hq
    have hq := hq.symm
    subst hq
    refine R_istore_n (n := 21) dX8_letBy_20 rfl (Nat.le_of_ble_eq_true rfl) (Nat.le_of_ble_eq_true rfl) ?_
    refine R_iload_n (n := 22) dX8_letBy_21 rfl rfl ?_
    refine R_aload_n (n := 23) dX8_letBy_22 rfl rfl ?_
    refine ge_X8_83 (n := 26) dX8_letBy_23 rfl (hM.2.1) ?_
    refine R_iconst (v := nI 1) (n := 27) dX8_letBy_26 rfl rfl ?_
    refine R_isub_n (n := 28) dX8_letBy_27 ((by omega)) rfl ?_
    generalize posF (sRow (gS σ)) j (gC σ).1 = p at *
    by_cases e : (gC σ).1 - 1 ≤ p
    · rw [if_pos e]
      refine R_icmp_ne_f (n := 31) dX8_letBy_28 rfl rfl (by rw [nI_eq (by omega) (by omega)]; omega) ?_
      refine R_bipush (v := -3) (n := 33) dX8_letBy_31 rfl rfl ?_
      refine R_iret dX8_letBy_33 rfl (rfl) (⟨rfl, h, SmM.rf _⟩)
    · rw [if_neg e]
      refine R_icmp_ne_t (tgt := 34) dX8_letBy_28 rfl (by rw [nI_eq (by omega) (by omega)]; omega) ?_
      refine R_aload_n (n := 35) dX8_letBy_34 rfl rfl ?_
      refine iv_X8_114 (n := 38) (ct_X8_keepAct h.2.2.1 ⟨o1, o2⟩ h.2.2.2.1) (by decide) dX8_letBy_35 rfl (Nat.le_of_ble_eq_true rfl) (fun r μ' hq => ?_)
      obtain ⟨rfl, r1, r2⟩ := hq
      have hS1 := h.2.2.1.kept ⟨o1, o2, o1⟩ r2 (fun j z1 z2 => by omega)
      obtain ⟨q1, q2, q3, q4, q5, q6⟩ := m0 hS1
      refine R_aload_n (n := 39) dX8_letBy_38 rfl rfl ?_
      refine gf_X8_16 (n := 42) dX8_letBy_39 rfl ?_
      refine R_iload_n (n := 43) dX8_letBy_42 rfl rfl ?_
      refine R_aload_n (n := 44) dX8_letBy_43 rfl rfl ?_
      refine gf_X8_16 (n := 47) dX8_letBy_44 rfl ?_
      refine R_iload_n (n := 48) dX8_letBy_47 rfl rfl ?_
      refine R_iconst (v := nI 1) (n := 49) dX8_letBy_48 rfl rfl ?_
      refine R_iadd_n (n := 50) dX8_letBy_49 rfl ?_
      refine R_iald_e (n := 51) sh_128 (rfl) (by omega) dX8_letBy_50 rfl (q1 (p + 1) (by omega)) ?_
      refine R_iast (n := 52) sh_128 (rfl) (by omega) dX8_letBy_51 rfl ?_
      refine R_aload_n (n := 53) dX8_letBy_52 rfl rfl ?_
      refine gf_X8_16 (n := 56) dX8_letBy_53 rfl ?_
      refine R_iload_n (n := 57) dX8_letBy_56 rfl rfl ?_
      refine R_iconst (v := nI 1) (n := 58) dX8_letBy_57 rfl rfl ?_
      refine R_iadd_n (n := 59) dX8_letBy_58 rfl ?_
      refine R_iload_n (n := 60) dX8_letBy_59 rfl rfl ?_
      refine R_iast (n := 61) sh_128 (rfl) (by omega) dX8_letBy_60 rfl ?_
      refine R_iload_n (n := 62) dX8_letBy_61 rfl rfl ?_
      refine R_iconst (v := nI 1) (n := 63) dX8_letBy_62 rfl rfl ?_
      refine R_iadd_n (n := 64) dX8_letBy_63 rfl ?_
      have s2 : Sme (fun i j => (i = 128 ∧ j < 54) ∨ i = 132) μ' (sti (sti μ' 128 p (nI (sRow (gS σ) (p + 1)))) 128 (p + 1) (nI j)) := ((Sme.rf _ _).sti (by omega)).sti (by omega)
      refine R_iret dX8_letBy_64 rfl rfl ⟨rfl, h.act w r1 r2 ?_ s2⟩
      refine m0r (fun q hq => ?_) (fun p hp => ?_) (fun p hp => ?_) (fun p hp => ?_) (fun e he => ?_) ?_
      · show _ = nI (swp (sRow (gS σ)) p q)
        rw [sti_1, sti_1]
        unfold swp
        by_cases e1 : q = p + 1
        · rw [if_pos ⟨rfl, e1⟩, if_pos e1, p2]
        · rw [if_neg (fun z => e1 z.2), if_neg e1]
          by_cases e2 : q = p
          · rw [if_pos ⟨rfl, e2⟩, if_pos e2]
          · rw [if_neg (fun z => e2 z.2), if_neg e2]; exact q1 q hq
      · rw [sti_1_pf _ _ _ _ _ _ (by omega), sti_1_pf _ _ _ _ _ _ (by omega)]; exact q2 p hp
      · rw [sti_1_pf _ _ _ _ _ _ (by omega), sti_1_pf _ _ _ _ _ _ (by omega)]; exact q3 p hp
      · rw [sti_1_pf _ _ _ _ _ _ (by omega), sti_1_pf _ _ _ _ _ _ (by omega)]; exact q4 p hp
      · rw [sti_1_pf _ _ _ _ _ _ (by omega), sti_1_pf _ _ _ _ _ _ (by omega)]; exact q5 e he
      · rw [sti_1_pf _ _ _ _ _ _ (by omega), sti_1_pf _ _ _ _ _ _ (by omega)]; exact q6
theorem ct_X8_learn (h : MI μ σ) (w : WF σ) (x y : Int32) : Ct G l 3 yX8_learn cX8_learn 4 (some .int) [.ref (G.2.2.1 125), .int x, .int y] μ (fun r μ' => r = some (.int (fLearn σ x y).1) ∧ MI μ' (fLearn σ x y).2 ∧ SmM μ μ') := by
  obtain ⟨o1, o2, o3, o4, o5, o6⟩ := id w.1.1
  obtain ⟨n1, n2, n3, n4, n5, n6⟩ := m0 h.2.2.1
  have hM := h.2.1
  refine Ct.of 1 (by decide +kernel) rfl (Nat.le_of_ble_eq_true rfl) ?_
  show V G l RX8 cX8_learn 4 _ false _ _ 0 [some (.ref _), some (.int _), some (.int _), none] [] _
  refine R_aload_n (n := 1) dX8_learn_0 rfl rfl ?_
  refine R_iload_n (n := 2) dX8_learn_1 rfl rfl ?_
  refine iv_X8_97 (n := 5) (ct_X8_isLock x hM.1 (by omega)) (by decide) dX8_learn_2 rfl (Nat.le_of_ble_eq_true rfl) (fun r μ' hq => ?_)
  obtain ⟨rfl, hq⟩ := hq
  have hq := hq.symm
  subst hq
  cases hx : inR x (gC σ).2.1 with
  | false =>
    rw [show fLearn σ x y = (-1, σ) by rw [fLearn, hx]; rfl]
    refine R_if_ne_f (n := 8) dX8_learn_5 rfl rfl (by decide) ?_
    refine R_iconst (v := -1) (n := 9) dX8_learn_8 rfl rfl ?_
    refine R_iret dX8_learn_9 rfl (rfl) (⟨rfl, h, SmM.rf _⟩)
  | true =>
    obtain ⟨hxl, hxe⟩ := inR_cl (by omega) hx
    have hF : fLearn σ x y = if y < 0 ∨ nI 3 < y then (-2, σ)
    else if x.toNatClampNeg < sPsd (gS σ) ∨ sLaw (gS σ) x.toNatClampNeg = y.toNatClampNeg then (-3, σ)
    else (nI (sLaw (gS σ) x.toNatClampNeg), act σ (setLaw (gS σ) x.toNatClampNeg y.toNatClampNeg)) := by rw [fLearn, hx]; rfl
    rw [hF]
    clear hF hx
    generalize x.toNatClampNeg = k at *
    subst hxe
    refine R_if_ne_t (tgt := 10) dX8_learn_5 rfl (by decide) ?_
    refine R_iload_n (n := 11) dX8_learn_10 rfl rfl ?_
    refine R_i2l (n := 12) dX8_learn_11 rfl ?_
    refine R_lconst (n := 13) dX8_learn_12 rfl rfl ?_
    refine R_ldc2 (n := 16) dX8_learn_13 tK_RX8_124 rfl ?_
    refine iv_X8_56 (n := 19) (ct_X8_in y 0 (nI 3)) (by decide) dX8_learn_16 rfl (Nat.le_of_ble_eq_true rfl) (fun r μ' hq => ?_)
    obtain ⟨rfl, hq⟩ := hq
    have hq := hq.symm
    subst hq
    cases hy : inI y 0 (nI 3) with
    | false =>
      rw [if_pos (inI_b.mp hy)]
      refine R_if_ne_f (n := 22) dX8_learn_19 rfl rfl (by decide) ?_
      refine R_bipush (v := -2) (n := 24) dX8_learn_22 rfl rfl ?_
      refine R_iret dX8_learn_24 rfl (rfl) (⟨rfl, h, SmM.rf _⟩)
    | true =>
      have hy2 : ¬ (y < 0 ∨ nI 3 < y) := fun z => by rw [inI_b.mpr z] at hy; cases hy
      obtain ⟨m, hm, rfl⟩ := nI_of (x := y) (fun z => hy2 (Or.inl z))
      have hm4 : m < 4 := by
        have : ¬ nI 3 < nI m := fun z => hy2 (Or.inr z)
        rw [nI_ltI (by omega) hm] at this
        omega
      rw [if_neg hy2, nI_clamp hm]
      have hl4 := o5 k hxl
      refine R_if_ne_t (tgt := 25) dX8_learn_19 rfl (by decide) ?_
      refine R_iload_n (n := 26) dX8_learn_25 rfl rfl ?_
      refine R_aload_n (n := 27) dX8_learn_26 rfl rfl ?_
      refine gf_X8_16 (n := 30) dX8_learn_27 rfl ?_
      refine R_bipush (v := nI 53) (n := 32) dX8_learn_30 rfl rfl ?_
      refine R_iald_e (n := 33) sh_128 (rfl) (by omega) dX8_learn_32 rfl (n6) ?_
      by_cases e1 : k < sPsd (gS σ)
      · rw [if_pos (Or.inl e1)]
        refine R_icmp_lt_t (tgt := 49) dX8_learn_33 rfl (by rw [nI_ltI (by omega) (by omega)]; omega) ?_
        refine R_bipush (v := -3) (n := 51) dX8_learn_49 rfl rfl ?_
        refine R_iret dX8_learn_51 rfl (rfl) (⟨rfl, h, SmM.rf _⟩)
      · refine R_icmp_lt_f (n := 36) dX8_learn_33 rfl rfl (by rw [nI_ltI (by omega) (by omega)]; omega) ?_
        refine R_aload_n (n := 37) dX8_learn_36 rfl rfl ?_
        refine gf_X8_16 (n := 40) dX8_learn_37 rfl ?_
        refine R_bipush (v := nI 12) (n := 42) dX8_learn_40 rfl rfl ?_
        refine R_iload_n (n := 43) dX8_learn_42 rfl rfl ?_
        refine R_iadd_n (n := 44) dX8_learn_43 rfl ?_
        refine R_iald_e (n := 45) sh_128 (rfl) (by omega) dX8_learn_44 rfl (n3 k hxl) ?_
        refine R_iload_n (n := 46) dX8_learn_45 rfl rfl ?_
        by_cases e2 : sLaw (gS σ) k = m
        · rw [if_pos (Or.inr e2)]
          refine R_icmp_ne_f (n := 49) dX8_learn_46 rfl rfl (congrArg nI e2) ?_
          refine R_bipush (v := -3) (n := 51) dX8_learn_49 rfl rfl ?_
          refine R_iret dX8_learn_51 rfl (rfl) (⟨rfl, h, SmM.rf _⟩)
        · rw [if_neg (fun z => z.elim e1 e2)]
          refine R_icmp_ne_t (tgt := 52) dX8_learn_46 rfl (by rw [nI_eq (by omega) (by omega)]; omega) ?_
          refine R_aload_n (n := 53) dX8_learn_52 rfl rfl ?_
          refine iv_X8_114 (n := 56) (ct_X8_keepAct h.2.2.1 ⟨o1, o2⟩ h.2.2.2.1) (by decide) dX8_learn_53 rfl (Nat.le_of_ble_eq_true rfl) (fun r μ' hq => ?_)
          obtain ⟨rfl, r1, r2⟩ := hq
          have hS1 := h.2.2.1.kept ⟨o1, o2, o1⟩ r2 (fun j z1 z2 => by omega)
          obtain ⟨q1, q2, q3, q4, q5, q6⟩ := m0 hS1
          refine R_aload_n (n := 57) dX8_learn_56 rfl rfl ?_
          refine gf_X8_16 (n := 60) dX8_learn_57 rfl ?_
          refine R_bipush (v := nI 12) (n := 62) dX8_learn_60 rfl rfl ?_
          refine R_iload_n (n := 63) dX8_learn_62 rfl rfl ?_
          refine R_iadd_n (n := 64) dX8_learn_63 rfl ?_
          refine R_iald_e (n := 65) sh_128 (rfl) (by omega) dX8_learn_64 rfl (q3 k hxl) ?_
          refine R_istore_n (n := 66) dX8_learn_65 rfl (Nat.le_of_ble_eq_true rfl) (Nat.le_of_ble_eq_true rfl) ?_
          refine R_aload_n (n := 67) dX8_learn_66 rfl rfl ?_
          refine gf_X8_16 (n := 70) dX8_learn_67 rfl ?_
          refine R_bipush (v := nI 12) (n := 72) dX8_learn_70 rfl rfl ?_
          refine R_iload_n (n := 73) dX8_learn_72 rfl rfl ?_
          refine R_iadd_n (n := 74) dX8_learn_73 rfl ?_
          refine R_iload_n (n := 75) dX8_learn_74 rfl rfl ?_
          refine R_iast (n := 76) sh_128 (rfl) (by omega) dX8_learn_75 rfl ?_
          refine R_iload_n (n := 77) dX8_learn_76 rfl rfl ?_
          have s3 : Sme (fun i j => i = 128 ∧ j = 12 + k) μ' (sti μ' 128 (12 + k) (nI m)) := (Sme.rf _ _).sti ⟨rfl, rfl⟩
          refine R_iret dX8_learn_77 rfl rfl ⟨rfl, h.act w r1 r2 (m0r (fun p hp => ?_) (fun p hp => (s3.1 _ _ (by omega)).trans (q2 p hp)) (fun p hp => ?_) (fun p hp => (s3.1 _ _ (by omega)).trans (q4 p hp)) (fun e he => (s3.1 _ _ (by omega)).trans (q5 e he)) ((s3.1 _ _ (by omega)).trans q6)) (s3.mono (fun i j z => by omega))⟩
          · exact (s3.1 _ _ (by omega)).trans (q1 p hp)
          · show (sti μ' 128 (12 + k) (nI m)).1 128 (12 + p) = nI (updN _ _ _ p)
            rw [sti_1]
            unfold updN
            by_cases e3 : p = k
            · rw [if_pos ⟨rfl, by omega⟩, if_pos e3]
            · rw [if_neg (by omega), if_neg e3]; exact q3 p hp
end M8

