/-! all locks that are left; mates -/
def gos (C : CF) (z : Nat) : Nat → ST → ST
  | 0, S => S
  | k + 1, S => gos C z k (pass1 C z S)
theorem goL_inv {len wt : Nat → Int32} {law : Nat} {g : Nat → Int32} {z : Nat} (P : (Nat → Nat) → Prop) (hP : ∀ row p, p + 1 < z → P row → P (swp row p)) : ∀ (f p : Nat) (hour : Int32) (row : Nat → Nat) (hrs w : Nat → Int32), P row → P (goL len wt law g z f p hour row hrs w).1 := by
  intro f
  induction f with
  | zero => intro p hour row hrs w h; exact h
  | succ f ih =>
    intro p hour row hrs w h
    by_cases hp : p < z
    · cases ht : twoF len row z p with
      | true =>
        rw [goL_two hp ht]
        apply ih
        split
        · refine hP row p ?_ h
          rw [twoF, Bool.and_eq_true] at ht
          exact of_decide_eq_true ht.1
        · exact h
      | false =>
        rw [goL_one hp ht]
        exact ih _ _ _ _ _ h
    · rw [goL_end hp]; exact h
theorem swp_lt {z n : Nat} {row : Nat → Nat} {p : Nat} (hp : p + 1 < z) (h : ∀ q, q < z → row q < n) : ∀ q, q < z → swp row p q < n := by
  intro q hq
  unfold swp
  split
  · exact h p (by omega)
  · split
    · exact h _ hp
    · exact h q hq
theorem ok_pass1 {C : CF} {z : Nat} {S : ST} (h : Ok C z S) (hp : sPsd S < C.2.1) : Ok C z (pass1 C z S) :=
  ⟨h.1, h.2.1, h.2.2.1, goL_inv (fun row => ∀ p, p < z → row p < C.1) (fun row p h1 h2 => swp_lt h1 h2) _ _ _ _ _ _ h.2.2.2.1, h.2.2.2.2.1, hp⟩
theorem sPsd_pass1 (C : CF) (z : Nat) (S : ST) : sPsd (pass1 C z S) = sPsd S + 1 := rfl
theorem ok_gos {C : CF} {z : Nat} : ∀ (k : Nat) (S : ST), Ok C z S → sPsd S + k ≤ C.2.1 → Ok C z (gos C z k S)
  | 0, S, h, _ => h
  | k + 1, S, h, hk => ok_gos k (pass1 C z S) (ok_pass1 h (by omega)) (by rw [sPsd_pass1]; omega)
def mtL (len : Nat → Int32) (row : Nat → Nat) (z v : Nat) : Nat → Nat → Option Nat
  | 0, _ => none
  | f + 1, p =>
    if p < z then
      if twoF len row z p = true then
        if row p = v then some (row (p + 1)) else if row (p + 1) = v then some (row p) else mtL len row z v f (p + 2)
      else mtL len row z v f (p + 1)
    else none
def oI (x : Option Nat) : Int32 := match x with
  | none => -9
  | some m => nI m
section CN
variable {G : Gm} {l : Launch} {μ : Mem} {b z : Nat} {C : CF} {S : ST}
theorem CCf.kept {μ μ1 : Mem} (hC : CCf μ C) {P : Nat → Nat → Prop} (h : Sme P μ μ1) (h3 : ¬ P 3 4) (h5 : ¬ P 3 5) (h4 : ∀ j, ¬ P 4 j) (h6 : ∀ j, ¬ P 5 j) : CCf μ1 C :=
  ⟨(h.1 _ _ h3).trans hC.1, (h.1 _ _ h5).trans hC.2.1, fun j hj => (h.1 _ _ (h4 j)).trans (hC.2.2.1 j hj), fun j hj => (h.1 _ _ (h6 j)).trans (hC.2.2.2 j hj)⟩
theorem ct_X1_goOnTo {m : Nat} (hs : StB b) (hb6 : 6 ≤ b) (hC : CCf μ C) (hS : CSt μ b z C S) (hO : Ok C z S) (hm : m ≤ C.2.1) (hSm : sPsd S ≤ m) : Ct G l 4 yX1_goOnTo cX1_goOnTo 4 none [.ref (G.2.2.1 3), .ref (G.2.2.1 b), .int (nI m)] μ (fun r μ' => r = none ∧ CSt μ' b z C (gos C z (m - sPsd S) S) ∧ Sme (Pst b) μ μ') := by
  have hp6 := hS.2.2.2.2.2.2
  have hL5 := hO.2.1
  refine Ct.of 1 (by decide +kernel) rfl (Nat.le_of_ble_eq_true rfl) ?_
  show V G l RX1 cX1_goOnTo 4 _ false none _ 0 [some (.ref _), some (.ref _), some (.int _), none] [] _
  refine R_aload_n (n := 1) dX1_goOnTo_0 rfl rfl ?_
  refine ge_X1_62 (n := 4) hs dX1_goOnTo_1 rfl (hp6) ?_
  refine R_istore_n (n := 5) dX1_goOnTo_4 rfl (Nat.le_of_ble_eq_true rfl) (Nat.le_of_ble_eq_true rfl) ?_
  have loop : ∀ (f : Nat) (S1 : ST) (μ1 : Mem), sPsd S1 + f = m → CSt μ1 b z C S1 → Ok C z S1 → gos C z f S1 = gos C z (m - sPsd S) S → Sme (Pst b) μ μ1 → V G l RX1 cX1_goOnTo 4 4 false none (fun r μ' => r = none ∧ CSt μ' b z C (gos C z (m - sPsd S) S) ∧ Sme (Pst b) μ μ') 5 [some (.ref (G.2.2.1 3)), some (.ref (G.2.2.1 b)), some (.int (nI m)), some (.int (nI (sPsd S1)))] [] μ1 := by
    intro f
    induction f with
    | zero =>
      intro S1 μ1 h1 h2 h3 h4 h5
      refine R_iload_n (n := 6) dX1_goOnTo_5 rfl rfl ?_
      refine R_iload_n (n := 7) dX1_goOnTo_6 rfl rfl ?_
      refine R_icmp_ge_t (tgt := 21) dX1_goOnTo_7 rfl (by rw [nI_leI (by omega) (by omega)]; omega) ?_
      refine R_ret dX1_goOnTo_21 rfl (⟨rfl, h4 ▸ h2, h5⟩)
    | succ f ih =>
      intro S1 μ1 h1 h2 h3 h4 h5
      refine R_iload_n (n := 6) dX1_goOnTo_5 rfl rfl ?_
      refine R_iload_n (n := 7) dX1_goOnTo_6 rfl rfl ?_
      refine R_icmp_ge_f (n := 10) dX1_goOnTo_7 rfl rfl (by rw [nI_leI (by omega) (by omega)]; omega) ?_
      refine R_aload_n (n := 11) dX1_goOnTo_10 rfl rfl ?_
      refine R_aload_n (n := 12) dX1_goOnTo_11 rfl rfl ?_
      refine iv_X1_77 (n := 15) (ct_X1_goThroughNext hs hb6 (hC.kept h5 (by omega) (by omega) (fun j => by omega) (fun j => by omega)) h2 h3 (by omega)) (by decide) dX1_goOnTo_12 rfl (Nat.le_of_ble_eq_true rfl) (fun r μ' hq => ?_)
      obtain ⟨rfl, h6, h7⟩ := hq
      refine R_iinc (n := 18) dX1_goOnTo_15 rfl rfl (nI_1 _) (Nat.le_of_ble_eq_true rfl) ?_
      refine R_goto (tgt := 5) dX1_goOnTo_18 rfl ?_
      exact ih (pass1 C z S1) _ (by rw [sPsd_pass1]; omega) h6 (ok_pass1 h3 (by omega)) h4 (h5.tr h7)
  exact loop (m - sPsd S) S μ (by omega) hS hO rfl (Sme.rf _ _)
theorem cst_cpy {a : Nat} {μ μ' : Mem} (hC5 : C.2.1 ≤ 5) (hC6 : C.1 ≤ 6) (hz : z ≤ 6) (h : CSt μ a z C S) (hc : Cpy μ μ' a b) : CSt μ' b z C S := by
  obtain ⟨h1, h2, h3, h4, h5, h6, h7⟩ := h
  obtain ⟨c1, c2, c3, c4, c5, c6, c7⟩ := hc
  exact ⟨fun p hp => (c1 p (by omega)).trans (h1 p hp), fun j hj => (c2 j hj).trans (h2 j hj), fun j hj => (c3 j (by omega)).trans (h3 j hj), fun k hk => (c4 k (by omega)).trans (h4 k hk), fun e he => (c5 e he).trans (h5 e he), c6.trans h6, c7.trans h7⟩
abbrev Ptr : Nat → Nat → Prop := fun i _ => 12 ≤ i ∧ i ≤ 17
theorem ct_X1_atBasin (hC : CCf μ C) (hS : CSt μ 6 z C S) (hO : Ok C z S) : Ct G l 5 yX1_atBasin cX1_atBasin 2 (some (.object "EelLocks$State")) [.ref (G.2.2.1 3)] μ (fun r μ' => r = some (.ref (G.2.2.1 12)) ∧ CSt μ' 12 z C (gos C z (C.2.1 - sPsd S) S) ∧ Sme Ptr μ μ') := by
  have hO' := hO
  obtain ⟨h1, h2, h3, h4, h5, h6⟩ := hO'
  refine Ct.of 1 (by decide +kernel) rfl (Nat.le_of_ble_eq_true rfl) ?_
  show V G l RX1 cX1_atBasin 2 _ false _ _ 0 [some (.ref _), none] [] _
  refine R_aload_n (n := 1) dX1_atBasin_0 rfl rfl ?_
  refine iv_X1_69 (n := 4) (ct_X1_newTrial) (by decide) dX1_atBasin_1 rfl (Nat.le_of_ble_eq_true rfl) (fun r μ' hq => ?_)
  obtain ⟨rfl, h7, h8⟩ := hq
  have hC' := hC.kept h8 (by omega) (by omega) (fun j => by omega) (fun j => by omega)
  have hcL := hC'.1
  refine R_astore_n (n := 5) dX1_atBasin_4 rfl (Nat.le_of_ble_eq_true rfl) (Nat.le_of_ble_eq_true rfl) ?_
  refine R_aload_n (n := 6) dX1_atBasin_5 rfl rfl ?_
  refine R_aload_n (n := 7) dX1_atBasin_6 rfl rfl ?_
  refine R_aload_n (n := 8) dX1_atBasin_7 rfl rfl ?_
  refine ge_X1_28 (n := 11) dX1_atBasin_8 rfl (hcL) ?_
  refine iv_X1_73 (n := 14) (ct_X1_goOnTo stB_12 (by omega) hC' (cst_cpy h2 h1 (by omega) hS h7) hO (Nat.le_refl _) h6) (by decide) dX1_atBasin_11 rfl (Nat.le_of_ble_eq_true rfl) (fun r μ' hq => ?_)
  obtain ⟨rfl, h9, h10⟩ := hq
  refine R_aload_n (n := 15) dX1_atBasin_14 rfl rfl ?_
  refine R_aret dX1_atBasin_15 rfl (⟨rfl, h9, h8.tr (h10.mono (fun i j h => by omega))⟩)
theorem ct_X1_mateAtNext {n v : Nat} {row : Nat → Nat} {len : Nat → Int32} (hs : StB b) (hn : n ≤ 6) (hzn : z ≤ n) (hz : μ.1 b 5 = nI z) (hr : ∀ p, p < z → μ.1 (b + 1) p = nI (row p)) (hrow : ∀ p, p < z → row p < n) (hl : ∀ j, j < n → μ.1 4 j = len j) (hv : v < 6) : Ct G l 2 yX1_mateAtNext cX1_mateAtNext 4 (some .int) [.ref (G.2.2.1 3), .ref (G.2.2.1 b), .int (nI v)] μ (fun r μ' => r = some (.int (oI (mtL len row z v z 0))) ∧ μ' = μ) := by
  refine Ct.of 1 (by decide +kernel) rfl (Nat.le_of_ble_eq_true rfl) ?_
  show V G l RX1 cX1_mateAtNext 4 _ false _ _ 0 [some (.ref _), some (.ref _), some (.int _), none] [] _
  refine R_iconst (v := nI 0) (n := 1) dX1_mateAtNext_0 rfl rfl ?_
  refine R_istore_n (n := 2) dX1_mateAtNext_1 rfl (Nat.le_of_ble_eq_true rfl) (Nat.le_of_ble_eq_true rfl) ?_
  have loop : ∀ (f p : Nat), p ≤ z → z ≤ p + f → V G l RX1 cX1_mateAtNext 4 2 false (some .int) (fun r μ' => r = some (.int (oI (mtL len row z v f p))) ∧ μ' = μ) 2 [some (.ref (G.2.2.1 3)), some (.ref (G.2.2.1 b)), some (.int (nI v)), some (.int (nI p))] [] μ := by
    intro f
    induction f with
    | zero =>
      intro p h1 h2
      refine R_iload_n (n := 3) dX1_mateAtNext_2 rfl rfl ?_
      refine R_aload_n (n := 4) dX1_mateAtNext_3 rfl rfl ?_
      refine ge_X1_59 (n := 7) hs dX1_mateAtNext_4 rfl (hz) ?_
      refine R_icmp_ge_t (tgt := 66) dX1_mateAtNext_7 rfl (by rw [nI_leI (by omega) (by omega)]; omega) ?_
      refine R_bipush (v := -9) (n := 68) dX1_mateAtNext_66 rfl rfl ?_
      refine R_iret dX1_mateAtNext_68 rfl (rfl) (⟨rfl, rfl⟩)
    | succ f ih =>
      intro p h1 h2
      by_cases hp : p < z
      · have hq1 := hrow p hp
        refine R_iload_n (n := 3) dX1_mateAtNext_2 rfl rfl ?_
        refine R_aload_n (n := 4) dX1_mateAtNext_3 rfl rfl ?_
        refine ge_X1_59 (n := 7) hs dX1_mateAtNext_4 rfl (hz) ?_
        refine R_icmp_ge_f (n := 10) dX1_mateAtNext_7 rfl rfl (by rw [nI_leI (by omega) (by omega)]; omega) ?_
        refine R_aload_n (n := 11) dX1_mateAtNext_10 rfl rfl ?_
        refine R_aload_n (n := 12) dX1_mateAtNext_11 rfl rfl ?_
        refine R_iload_n (n := 13) dX1_mateAtNext_12 rfl rfl ?_
        refine iv_X1_84 (n := 16) (ct_X1_holdsTwo hs hn hzn hz hr hrow hl hp) (by decide) dX1_mateAtNext_13 rfl (Nat.le_of_ble_eq_true rfl) (fun r μ' hq => ?_)
        obtain ⟨rfl, hq⟩ := hq
        have hq := hq.symm
        subst hq
        cases ht : twoF len row z p with
        | true =>
          have hp1 : p + 1 < z := by
            rw [twoF, Bool.and_eq_true] at ht
            exact of_decide_eq_true ht.1
          have hq2 := hrow (p + 1) hp1
          rw [mtL, if_pos hp, if_pos ht]
          refine R_if_eq_f (n := 19) dX1_mateAtNext_16 rfl rfl (by decide) ?_
          refine R_aload_n (n := 20) dX1_mateAtNext_19 rfl rfl ?_
          refine gf_X1_56 (n := 23) hs dX1_mateAtNext_20 rfl ?_
          refine R_iload_n (n := 24) dX1_mateAtNext_23 rfl rfl ?_
          refine R_iald_e (n := 25) hs.2.1 (rfl) (by omega) dX1_mateAtNext_24 rfl (hr _ (by omega)) ?_
          refine R_iload_n (n := 26) dX1_mateAtNext_25 rfl rfl ?_
          refine R_icmp_ne (n := 29) (tgt := 38) dX1_mateAtNext_26 rfl rfl (fun h => ?_) (fun h => ?_)
          · rw [nI_eq (by omega) (by omega)] at h
            rw [if_neg h]
            refine R_aload_n (n := 39) dX1_mateAtNext_38 rfl rfl ?_
            refine gf_X1_56 (n := 42) hs dX1_mateAtNext_39 rfl ?_
            refine R_iload_n (n := 43) dX1_mateAtNext_42 rfl rfl ?_
            refine R_iconst (v := nI 1) (n := 44) dX1_mateAtNext_43 rfl rfl ?_
            refine R_iadd_n (n := 45) dX1_mateAtNext_44 rfl ?_
            refine R_iald_e (n := 46) hs.2.1 (rfl) (by omega) dX1_mateAtNext_45 rfl (hr _ (by omega)) ?_
            refine R_iload_n (n := 47) dX1_mateAtNext_46 rfl rfl ?_
            refine R_icmp_ne (n := 50) (tgt := 57) dX1_mateAtNext_47 rfl rfl (fun h' => ?_) (fun h' => ?_)
            · rw [nI_eq (by omega) (by omega)] at h'
              rw [if_neg h']
              refine R_iinc (n := 60) dX1_mateAtNext_57 rfl rfl (nI_1 _) (Nat.le_of_ble_eq_true rfl) ?_
              refine R_iinc (n := 63) dX1_mateAtNext_60 rfl rfl (nI_1 _) (Nat.le_of_ble_eq_true rfl) ?_
              refine R_goto (tgt := 2) dX1_mateAtNext_63 rfl ?_
              exact ih (p + 2) (by omega) (by omega)
            · rw [nI_eq (by omega) (by omega)] at h'
              rw [if_pos h']
              refine R_aload_n (n := 51) dX1_mateAtNext_50 rfl rfl ?_
              refine gf_X1_56 (n := 54) hs dX1_mateAtNext_51 rfl ?_
              refine R_iload_n (n := 55) dX1_mateAtNext_54 rfl rfl ?_
              refine R_iald_e (n := 56) hs.2.1 (rfl) (by omega) dX1_mateAtNext_55 rfl (hr _ (by omega)) ?_
              refine R_iret dX1_mateAtNext_56 rfl (rfl) (⟨rfl, rfl⟩)
          · rw [nI_eq (by omega) (by omega)] at h
            rw [if_pos h]
            refine R_aload_n (n := 30) dX1_mateAtNext_29 rfl rfl ?_
            refine gf_X1_56 (n := 33) hs dX1_mateAtNext_30 rfl ?_
            refine R_iload_n (n := 34) dX1_mateAtNext_33 rfl rfl ?_
            refine R_iconst (v := nI 1) (n := 35) dX1_mateAtNext_34 rfl rfl ?_
            refine R_iadd_n (n := 36) dX1_mateAtNext_35 rfl ?_
            refine R_iald_e (n := 37) hs.2.1 (rfl) (by omega) dX1_mateAtNext_36 rfl (hr _ (by omega)) ?_
            refine R_iret dX1_mateAtNext_37 rfl (rfl) (⟨rfl, rfl⟩)
        | false =>
          rw [mtL, if_pos hp, if_neg (by rw [ht]; decide)]
          refine R_if_eq_t (tgt := 60) dX1_mateAtNext_16 rfl (by decide) ?_
          refine R_iinc (n := 63) dX1_mateAtNext_60 rfl rfl (nI_1 _) (Nat.le_of_ble_eq_true rfl) ?_
          refine R_goto (tgt := 2) dX1_mateAtNext_63 rfl ?_
          exact ih (p + 1) (by omega) (by omega)
      · rw [mtL, if_neg hp]
        refine R_iload_n (n := 3) dX1_mateAtNext_2 rfl rfl ?_
        refine R_aload_n (n := 4) dX1_mateAtNext_3 rfl rfl ?_
        refine ge_X1_59 (n := 7) hs dX1_mateAtNext_4 rfl (hz) ?_
        refine R_icmp_ge_t (tgt := 66) dX1_mateAtNext_7 rfl (by rw [nI_leI (by omega) (by omega)]; omega) ?_
        refine R_bipush (v := -9) (n := 68) dX1_mateAtNext_66 rfl rfl ?_
        refine R_iret dX1_mateAtNext_68 rfl (rfl) (⟨rfl, rfl⟩)
  exact loop z 0 (Nat.zero_le _) (by omega)
end CN

