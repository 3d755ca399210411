section AS
variable {G : Gm} {l : Launch} {μ : Mem} {C : CF} {S : ST} {hist : Nat → ST} {a : Nat}
/-! the row of ACTS: hist 0 is what was before the last one -/
def CAc (μ : Mem) (C : CF) (hist : Nat → ST) (a : Nat) : Prop := a ≤ 14 ∧ μ.1 18 2 = nI a ∧ ∃ old, old < 14 ∧ μ.1 18 1 = nI old ∧ ∀ i, i < a → CSt μ (20 + 6 * ((old + (a - 1 - i)) % 14)) C.1 C (hist i)
def pushH (S : ST) (hist : Nat → ST) : Nat → ST
  | 0 => S
  | i + 1 => hist i
abbrev Pac : Nat → Nat → Prop := fun i _ => 18 ≤ i ∧ i ≤ 103
theorem ids_act : ∀ k, k < 14 → ([20, 26, 32, 38, 44, 50, 56, 62, 68, 74, 80, 86, 92, 98] : List Nat)[k]? = some (20 + 6 * k) := by decide +kernel
theorem ct_X0_forgetAll (h : CAc μ C hist a) : Ct G l 1 yX0_forgetAll cX0_forgetAll 1 none [.ref (G.2.2.1 18)] μ (fun r μ' => r = none ∧ (∀ C hist, CAc μ' C hist 0) ∧ Sme Pac μ μ') := by
  obtain ⟨h1, h2, old, h3, h4, h5⟩ := h
  refine Ct.of 0 (by decide +kernel) rfl (Nat.le_of_ble_eq_true rfl) ?_
  show V G l RX0 cX0_forgetAll 1 _ false none _ 0 [some (.ref _)] [] _
  refine R_aload_n (n := 1) dX0_forgetAll_0 rfl rfl ?_
  refine R_iconst (v := nI 0) (n := 2) dX0_forgetAll_1 rfl rfl ?_
  refine pf_X0_22 (n := 5) dX0_forgetAll_2 rfl ?_
  refine R_ret dX0_forgetAll_5 rfl (⟨rfl, fun C hist => ⟨by omega, by rw [sti_1_eq], old, h3, by rw [sti_1_pf _ _ _ _ _ _ (by omega)]; exact h4, fun i hi => absurd hi (by omega)⟩, (Sme.rf _ _).sti (by omega)⟩)
theorem ct_X0_remember (hq6 : CSt μ 6 C.1 C S) (hC6 : C.1 ≤ 6) (hC5 : C.2.1 ≤ 5) (h : CAc μ C hist a) : Ct G l 2 yX0_remember cX0_remember 2 none [.ref (G.2.2.1 18), .ref (G.2.2.1 6)] μ (fun r μ' => r = none ∧ CAc μ' C (pushH S hist) (if a < 14 then a + 1 else 14) ∧ Sme Pac μ μ') := by
  obtain ⟨h1, h2, old, h3, h4, h5⟩ := h
  have hk : (old + a) % 14 < 14 := Nat.mod_lt _ (by omega)
  refine Ct.of 0 (by decide +kernel) rfl (Nat.le_of_ble_eq_true rfl) ?_
  show V G l RX0 cX0_remember 2 _ false none _ 0 [some (.ref _), some (.ref _)] [] _
  refine R_aload_n (n := 1) dX0_remember_0 rfl rfl ?_
  refine gf_X0_11 (n := 4) dX0_remember_1 rfl ?_
  refine R_aload_n (n := 5) dX0_remember_4 rfl rfl ?_
  refine ge_X0_18 (n := 8) dX0_remember_5 rfl (by first | exact h4 | (rw [sti_1_pf _ _ _ _ _ _ (by omega)]; exact h4) | (rw [sti_1_pf _ _ _ _ _ _ (by omega), sti_1_pf _ _ _ _ _ _ (by omega)]; exact h4) | (rw [sti_1_pf _ _ _ _ _ _ (by omega), sti_1_pf _ _ _ _ _ _ (by omega), sti_1_pf _ _ _ _ _ _ (by omega)]; exact h4) | (rw [sti_1_pf _ _ _ _ _ _ (by omega), sti_1_pf _ _ _ _ _ _ (by omega), sti_1_pf _ _ _ _ _ _ (by omega), sti_1_pf _ _ _ _ _ _ (by omega)]; exact h4) | (rw [sti_1_pf _ _ _ _ _ _ (by omega), sti_1_pf _ _ _ _ _ _ (by omega), sti_1_pf _ _ _ _ _ _ (by omega), sti_1_pf _ _ _ _ _ _ (by omega), sti_1_pf _ _ _ _ _ _ (by omega)]; exact h4)) ?_
  refine R_aload_n (n := 9) dX0_remember_8 rfl rfl ?_
  refine ge_X0_22 (n := 12) dX0_remember_9 rfl (by first | exact h2 | (rw [sti_1_pf _ _ _ _ _ _ (by omega)]; exact h2) | (rw [sti_1_pf _ _ _ _ _ _ (by omega), sti_1_pf _ _ _ _ _ _ (by omega)]; exact h2) | (rw [sti_1_pf _ _ _ _ _ _ (by omega), sti_1_pf _ _ _ _ _ _ (by omega), sti_1_pf _ _ _ _ _ _ (by omega)]; exact h2) | (rw [sti_1_pf _ _ _ _ _ _ (by omega), sti_1_pf _ _ _ _ _ _ (by omega), sti_1_pf _ _ _ _ _ _ (by omega), sti_1_pf _ _ _ _ _ _ (by omega)]; exact h2) | (rw [sti_1_pf _ _ _ _ _ _ (by omega), sti_1_pf _ _ _ _ _ _ (by omega), sti_1_pf _ _ _ _ _ _ (by omega), sti_1_pf _ _ _ _ _ _ (by omega), sti_1_pf _ _ _ _ _ _ (by omega)]; exact h2)) ?_
  refine R_iadd_n (n := 13) dX0_remember_12 rfl ?_
  refine R_bipush (v := nI 14) (n := 15) dX0_remember_13 rfl rfl ?_
  refine R_irem_n (n := 16) dX0_remember_15 (by omega) (by omega) (by omega) rfl ?_
  refine R_aald (n := 17) (r := (20 + 6 * ((old + a) % 14))) (by decide) sh_19 (rfl) (ids_act _ hk) dX0_remember_16 rfl ?_
  refine R_aload_n (n := 18) dX0_remember_17 rfl rfl ?_
  refine iv_X0_25 (n := 21) (ct_X5_copyFrom (stB_act hk) stB_6 (by omega)) (stB_act hk) (by decide) dX0_remember_18 rfl (Nat.le_of_ble_eq_true rfl) (fun r μ' hq => ?_)
  obtain ⟨rfl, q1, q2⟩ := hq
  have h2' : μ'.1 18 2 = nI a := (q2.1 _ _ (by omega)).trans h2
  have h4' : μ'.1 18 1 = nI old := (q2.1 _ _ (by omega)).trans h4
  have qs : Sme Pac μ μ' := q2.mono (fun i j h => by omega)
  refine R_aload_n (n := 22) dX0_remember_21 rfl rfl ?_
  refine ge_X0_22 (n := 25) dX0_remember_22 rfl (by first | exact h2' | (rw [sti_1_pf _ _ _ _ _ _ (by omega)]; exact h2') | (rw [sti_1_pf _ _ _ _ _ _ (by omega), sti_1_pf _ _ _ _ _ _ (by omega)]; exact h2') | (rw [sti_1_pf _ _ _ _ _ _ (by omega), sti_1_pf _ _ _ _ _ _ (by omega), sti_1_pf _ _ _ _ _ _ (by omega)]; exact h2') | (rw [sti_1_pf _ _ _ _ _ _ (by omega), sti_1_pf _ _ _ _ _ _ (by omega), sti_1_pf _ _ _ _ _ _ (by omega), sti_1_pf _ _ _ _ _ _ (by omega)]; exact h2') | (rw [sti_1_pf _ _ _ _ _ _ (by omega), sti_1_pf _ _ _ _ _ _ (by omega), sti_1_pf _ _ _ _ _ _ (by omega), sti_1_pf _ _ _ _ _ _ (by omega), sti_1_pf _ _ _ _ _ _ (by omega)]; exact h2')) ?_
  refine R_bipush (v := nI 14) (n := 27) dX0_remember_25 rfl rfl ?_
  by_cases ha : a < 14
  · rw [if_pos ha]
    refine R_icmp_ge_f (n := 30) dX0_remember_27 rfl rfl (by rw [nI_leI (by omega) (by omega)]; omega) ?_
    refine R_aload_n (n := 31) dX0_remember_30 rfl rfl ?_
    refine R_dup (n := 32) dX0_remember_31 rfl rfl ?_
    refine ge_X0_22 (n := 35) dX0_remember_32 rfl (by first | exact h2' | (rw [sti_1_pf _ _ _ _ _ _ (by omega)]; exact h2') | (rw [sti_1_pf _ _ _ _ _ _ (by omega), sti_1_pf _ _ _ _ _ _ (by omega)]; exact h2') | (rw [sti_1_pf _ _ _ _ _ _ (by omega), sti_1_pf _ _ _ _ _ _ (by omega), sti_1_pf _ _ _ _ _ _ (by omega)]; exact h2') | (rw [sti_1_pf _ _ _ _ _ _ (by omega), sti_1_pf _ _ _ _ _ _ (by omega), sti_1_pf _ _ _ _ _ _ (by omega), sti_1_pf _ _ _ _ _ _ (by omega)]; exact h2') | (rw [sti_1_pf _ _ _ _ _ _ (by omega), sti_1_pf _ _ _ _ _ _ (by omega), sti_1_pf _ _ _ _ _ _ (by omega), sti_1_pf _ _ _ _ _ _ (by omega), sti_1_pf _ _ _ _ _ _ (by omega)]; exact h2')) ?_
    refine R_iconst (v := nI 1) (n := 36) dX0_remember_35 rfl rfl ?_
    refine R_iadd_n (n := 37) dX0_remember_36 rfl ?_
    refine pf_X0_22 (n := 40) dX0_remember_37 rfl ?_
    refine R_goto (tgt := 56) dX0_remember_40 rfl ?_
    refine R_ret dX0_remember_56 rfl ⟨rfl, ⟨by omega, by rw [sti_1_eq], old, h3, by rw [sti_1_pf _ _ _ _ _ _ (by omega)]; exact h4', fun i hi => ?_⟩, qs.sti (by omega)⟩
    have e1 : CSt μ' (20 + 6 * ((old + (a + 1 - 1 - i)) % 14)) C.1 C (pushH S hist i) := by
      cases i with
      | zero => exact cst_cpy hC5 hC6 (by omega) hq6 (by rw [show old + (a + 1 - 1 - 0) = old + a by omega]; exact q1)
      | succ i =>
        have e2 := h5 i (by omega)
        rw [show old + (a - 1 - i) = old + (a + 1 - 1 - (i + 1)) by omega] at e2
        exact e2.kept q2 (fun x y z1 z2 => by omega)
    exact e1.kept (P := fun i _ => i = 18) ((Sme.rf _ _).sti rfl) (fun x y z1 z2 => by omega)
  · rw [if_neg ha]
    have ha14 : a = 14 := by omega
    subst ha14
    refine R_icmp_ge_t (tgt := 43) dX0_remember_27 rfl (by rw [nI_leI (by omega) (by omega)]; omega) ?_
    refine R_aload_n (n := 44) dX0_remember_43 rfl rfl ?_
    refine R_aload_n (n := 45) dX0_remember_44 rfl rfl ?_
    refine ge_X0_18 (n := 48) dX0_remember_45 rfl (by first | exact h4' | (rw [sti_1_pf _ _ _ _ _ _ (by omega)]; exact h4') | (rw [sti_1_pf _ _ _ _ _ _ (by omega), sti_1_pf _ _ _ _ _ _ (by omega)]; exact h4') | (rw [sti_1_pf _ _ _ _ _ _ (by omega), sti_1_pf _ _ _ _ _ _ (by omega), sti_1_pf _ _ _ _ _ _ (by omega)]; exact h4') | (rw [sti_1_pf _ _ _ _ _ _ (by omega), sti_1_pf _ _ _ _ _ _ (by omega), sti_1_pf _ _ _ _ _ _ (by omega), sti_1_pf _ _ _ _ _ _ (by omega)]; exact h4') | (rw [sti_1_pf _ _ _ _ _ _ (by omega), sti_1_pf _ _ _ _ _ _ (by omega), sti_1_pf _ _ _ _ _ _ (by omega), sti_1_pf _ _ _ _ _ _ (by omega), sti_1_pf _ _ _ _ _ _ (by omega)]; exact h4')) ?_
    refine R_iconst (v := nI 1) (n := 49) dX0_remember_48 rfl rfl ?_
    refine R_iadd_n (n := 50) dX0_remember_49 rfl ?_
    refine R_bipush (v := nI 14) (n := 52) dX0_remember_50 rfl rfl ?_
    refine R_irem_n (n := 53) dX0_remember_52 (by omega) (by omega) (by omega) rfl ?_
    refine pf_X0_18 (n := 56) dX0_remember_53 rfl ?_
    refine R_ret dX0_remember_56 rfl ⟨rfl, ⟨by omega, by rw [sti_1_pf _ _ _ _ _ _ (by omega)]; exact h2', (old + 1) % 14, by omega, by rw [sti_1_eq], fun i hi => ?_⟩, qs.sti (by omega)⟩
    have e1 : CSt μ' (20 + 6 * (((old + 1) % 14 + (14 - 1 - i)) % 14)) C.1 C (pushH S hist i) := by
      cases i with
      | zero => exact cst_cpy hC5 hC6 (by omega) hq6 (by rw [show ((old + 1) % 14 + (14 - 1 - 0)) % 14 = (old + 14) % 14 by omega]; exact q1)
      | succ i =>
        have e2 := h5 i (by omega)
        rw [show (old + (14 - 1 - i)) % 14 = ((old + 1) % 14 + (14 - 1 - (i + 1))) % 14 by omega] at e2
        exact e2.kept q2 (fun x y z1 z2 => by omega)
    exact e1.kept (P := fun i _ => i = 18) ((Sme.rf _ _).sti rfl) (fun x y z1 z2 => by omega)
theorem ct_X0_takeBack (hC6 : C.1 ≤ 6) (hC5 : C.2.1 ≤ 5) (h : CAc μ C hist (a + 1)) : Ct G l 2 yX0_takeBack cX0_takeBack 2 none [.ref (G.2.2.1 18), .ref (G.2.2.1 6)] μ (fun r μ' => r = none ∧ CAc μ' C (fun i => hist (i + 1)) a ∧ CSt μ' 6 C.1 C (hist 0) ∧ Sme (fun i j => (i = 18 ∧ j = 2) ∨ (6 ≤ i ∧ i ≤ 11)) μ μ') := by
  obtain ⟨h1, h2, old, h3, h4, h5⟩ := h
  have hk : (old + a) % 14 < 14 := Nat.mod_lt _ (by omega)
  refine Ct.of 0 (by decide +kernel) rfl (Nat.le_of_ble_eq_true rfl) ?_
  show V G l RX0 cX0_takeBack 2 _ false none _ 0 [some (.ref _), some (.ref _)] [] _
  refine R_aload_n (n := 1) dX0_takeBack_0 rfl rfl ?_
  refine ge_X0_22 (n := 4) dX0_takeBack_1 rfl (by first | exact h2 | (rw [sti_1_pf _ _ _ _ _ _ (by omega)]; exact h2) | (rw [sti_1_pf _ _ _ _ _ _ (by omega), sti_1_pf _ _ _ _ _ _ (by omega)]; exact h2) | (rw [sti_1_pf _ _ _ _ _ _ (by omega), sti_1_pf _ _ _ _ _ _ (by omega), sti_1_pf _ _ _ _ _ _ (by omega)]; exact h2) | (rw [sti_1_pf _ _ _ _ _ _ (by omega), sti_1_pf _ _ _ _ _ _ (by omega), sti_1_pf _ _ _ _ _ _ (by omega), sti_1_pf _ _ _ _ _ _ (by omega)]; exact h2) | (rw [sti_1_pf _ _ _ _ _ _ (by omega), sti_1_pf _ _ _ _ _ _ (by omega), sti_1_pf _ _ _ _ _ _ (by omega), sti_1_pf _ _ _ _ _ _ (by omega), sti_1_pf _ _ _ _ _ _ (by omega)]; exact h2)) ?_
  refine R_if_le_f (n := 7) dX0_takeBack_4 rfl rfl (nI_nle (by omega) (by omega)) ?_
  refine R_aload_n (n := 8) dX0_takeBack_7 rfl rfl ?_
  refine R_dup (n := 9) dX0_takeBack_8 rfl rfl ?_
  refine ge_X0_22 (n := 12) dX0_takeBack_9 rfl (by first | exact h2 | (rw [sti_1_pf _ _ _ _ _ _ (by omega)]; exact h2) | (rw [sti_1_pf _ _ _ _ _ _ (by omega), sti_1_pf _ _ _ _ _ _ (by omega)]; exact h2) | (rw [sti_1_pf _ _ _ _ _ _ (by omega), sti_1_pf _ _ _ _ _ _ (by omega), sti_1_pf _ _ _ _ _ _ (by omega)]; exact h2) | (rw [sti_1_pf _ _ _ _ _ _ (by omega), sti_1_pf _ _ _ _ _ _ (by omega), sti_1_pf _ _ _ _ _ _ (by omega), sti_1_pf _ _ _ _ _ _ (by omega)]; exact h2) | (rw [sti_1_pf _ _ _ _ _ _ (by omega), sti_1_pf _ _ _ _ _ _ (by omega), sti_1_pf _ _ _ _ _ _ (by omega), sti_1_pf _ _ _ _ _ _ (by omega), sti_1_pf _ _ _ _ _ _ (by omega)]; exact h2)) ?_
  refine R_iconst (v := nI 1) (n := 13) dX0_takeBack_12 rfl rfl ?_
  refine R_isub_n (n := 14) dX0_takeBack_13 ((by omega)) rfl ?_
  refine pf_X0_22 (n := 17) dX0_takeBack_14 rfl ?_
  rw [show a + 1 - 1 = a from rfl]
  have h2' : (sti μ 18 2 (nI a)).1 18 2 = nI a := by rw [sti_1_eq]
  refine R_aload_n (n := 18) dX0_takeBack_17 rfl rfl ?_
  refine R_aload_n (n := 19) dX0_takeBack_18 rfl rfl ?_
  refine gf_X0_11 (n := 22) dX0_takeBack_19 rfl ?_
  refine R_aload_n (n := 23) dX0_takeBack_22 rfl rfl ?_
  refine ge_X0_18 (n := 26) dX0_takeBack_23 rfl (by first | exact h4 | (rw [sti_1_pf _ _ _ _ _ _ (by omega)]; exact h4) | (rw [sti_1_pf _ _ _ _ _ _ (by omega), sti_1_pf _ _ _ _ _ _ (by omega)]; exact h4) | (rw [sti_1_pf _ _ _ _ _ _ (by omega), sti_1_pf _ _ _ _ _ _ (by omega), sti_1_pf _ _ _ _ _ _ (by omega)]; exact h4) | (rw [sti_1_pf _ _ _ _ _ _ (by omega), sti_1_pf _ _ _ _ _ _ (by omega), sti_1_pf _ _ _ _ _ _ (by omega), sti_1_pf _ _ _ _ _ _ (by omega)]; exact h4) | (rw [sti_1_pf _ _ _ _ _ _ (by omega), sti_1_pf _ _ _ _ _ _ (by omega), sti_1_pf _ _ _ _ _ _ (by omega), sti_1_pf _ _ _ _ _ _ (by omega), sti_1_pf _ _ _ _ _ _ (by omega)]; exact h4)) ?_
  refine R_aload_n (n := 27) dX0_takeBack_26 rfl rfl ?_
  refine ge_X0_22 (n := 30) dX0_takeBack_27 rfl (by first | exact h2' | (rw [sti_1_pf _ _ _ _ _ _ (by omega)]; exact h2') | (rw [sti_1_pf _ _ _ _ _ _ (by omega), sti_1_pf _ _ _ _ _ _ (by omega)]; exact h2') | (rw [sti_1_pf _ _ _ _ _ _ (by omega), sti_1_pf _ _ _ _ _ _ (by omega), sti_1_pf _ _ _ _ _ _ (by omega)]; exact h2') | (rw [sti_1_pf _ _ _ _ _ _ (by omega), sti_1_pf _ _ _ _ _ _ (by omega), sti_1_pf _ _ _ _ _ _ (by omega), sti_1_pf _ _ _ _ _ _ (by omega)]; exact h2') | (rw [sti_1_pf _ _ _ _ _ _ (by omega), sti_1_pf _ _ _ _ _ _ (by omega), sti_1_pf _ _ _ _ _ _ (by omega), sti_1_pf _ _ _ _ _ _ (by omega), sti_1_pf _ _ _ _ _ _ (by omega)]; exact h2')) ?_
  refine R_iadd_n (n := 31) dX0_takeBack_30 rfl ?_
  refine R_bipush (v := nI 14) (n := 33) dX0_takeBack_31 rfl rfl ?_
  refine R_irem_n (n := 34) dX0_takeBack_33 (by omega) (by omega) (by omega) rfl ?_
  refine R_aald (n := 35) (r := (20 + 6 * ((old + a) % 14))) (by decide) sh_19 (rfl) (ids_act _ hk) dX0_takeBack_34 rfl ?_
  refine iv_X0_25 (n := 38) (ct_X5_copyFrom stB_6 (stB_act hk) (by omega)) stB_6 (by decide) dX0_takeBack_35 rfl (Nat.le_of_ble_eq_true rfl) (fun r μ' hq => ?_)
  obtain ⟨rfl, q1, q2⟩ := hq
  have s0 : Sme (fun i j => i = 18 ∧ j = 2) μ (sti μ 18 2 (nI a)) := (Sme.rf _ _).sti ⟨rfl, rfl⟩
  refine R_ret dX0_takeBack_38 rfl ⟨rfl, ⟨by omega, (q2.1 _ _ (by omega)).trans h2', old, h3, (q2.1 _ _ (by omega)).trans ((s0.1 _ _ (by omega)).trans h4), fun i hi => ?_⟩, ?_, (s0.mono (fun i j h => Or.inl h)).tr (q2.mono (fun i j h => Or.inr (by omega)))⟩
  · have e2 := h5 (i + 1) (by omega)
    rw [show old + (a + 1 - 1 - (i + 1)) = old + (a - 1 - i) by omega] at e2
    exact (e2.kept s0 (fun x y z1 z2 => by omega)).kept q2 (fun x y z1 z2 => by omega)
  · have e2 := h5 0 (by omega)
    rw [show old + (a + 1 - 1 - 0) = old + a by omega] at e2
    exact cst_cpy hC5 hC6 (by omega) (e2.kept s0 (fun x y z1 z2 => by omega)) q1
/-! SLOTS -/
def CSl (μ : Mem) (C : CF) (kept : Nat → Option ST) : Prop := ∀ s, s < 2 → μ.1 118 s = bi (kept s).isSome ∧ ∀ T, kept s = some T → CSt μ (106 + 6 * s) C.1 C T
abbrev Psl : Nat → Nat → Prop := fun i _ => 105 ≤ i ∧ i ≤ 118
theorem ids_slot : ∀ k, k < 2 → ([106, 112] : List Nat)[k]? = some (106 + 6 * k) := by decide +kernel
theorem ct_X4_put {kept : Nat → Option ST} {k : Nat} (hk : k < 2) (hq6 : CSt μ 6 C.1 C S) (hC6 : C.1 ≤ 6) (hC5 : C.2.1 ≤ 5) (h : CSl μ C kept) : Ct G l 2 yX4_put cX4_put 3 none [.ref (G.2.2.1 104), .int (nI k), .ref (G.2.2.1 6)] μ (fun r μ' => r = none ∧ CSl μ' C (fun i => if i = k then some S else kept i) ∧ Sme Psl μ μ') := by
  refine Ct.of 0 (by decide +kernel) rfl (Nat.le_of_ble_eq_true rfl) ?_
  show V G l RX4 cX4_put 3 _ false none _ 0 [some (.ref _), some (.int _), some (.ref _)] [] _
  refine R_iload_n (n := 1) dX4_put_0 rfl rfl ?_
  refine R_if_lt_f (n := 4) dX4_put_1 rfl rfl (nI_pos (by omega)) ?_
  refine R_iload_n (n := 5) dX4_put_4 rfl rfl ?_
  refine R_iconst (v := nI 2) (n := 6) dX4_put_5 rfl rfl ?_
  refine R_icmp_ge_f (n := 9) dX4_put_6 rfl rfl (by rw [nI_leI (by omega) (by omega)]; omega) ?_
  refine R_aload_n (n := 10) dX4_put_9 rfl rfl ?_
  refine gf_X4_11 (n := 13) dX4_put_10 rfl ?_
  refine R_iload_n (n := 14) dX4_put_13 rfl rfl ?_
  refine R_aald (n := 15) (r := (106 + 6 * k)) (by decide) sh_105 (rfl) (ids_slot _ hk) dX4_put_14 rfl ?_
  refine R_aload_n (n := 16) dX4_put_15 rfl rfl ?_
  refine iv_X4_22 (n := 19) (ct_X5_copyFrom (stB_slot hk) stB_6 (by omega)) (stB_slot hk) (by decide) dX4_put_16 rfl (Nat.le_of_ble_eq_true rfl) (fun r μ' hq => ?_)
  obtain ⟨rfl, q1, q2⟩ := hq
  refine R_aload_n (n := 20) dX4_put_19 rfl rfl ?_
  refine gf_X4_17 (n := 23) dX4_put_20 rfl ?_
  refine R_iload_n (n := 24) dX4_put_23 rfl rfl ?_
  refine R_iconst (v := nI 1) (n := 25) dX4_put_24 rfl rfl ?_
  refine R_zast (n := 26) sh_118 (rfl) (by omega) dX4_put_25 rfl ?_
  refine R_ret dX4_put_26 rfl ⟨rfl, fun s hs => ?_, (q2.mono (fun i j h => by omega)).sti (by omega)⟩
  have s1 : Sme (fun i j => i = 118 ∧ j = k) μ' (sti μ' 118 k (vp_nar .boolean (nI 1))) := (Sme.rf _ _).sti ⟨rfl, rfl⟩
  dsimp only
  by_cases e : s = k
  · subst e
    rw [if_pos rfl]
    exact ⟨by rw [sti_1_eq]; rfl, fun T hT => by cases hT; exact (cst_cpy hC5 hC6 (by omega) hq6 q1).kept s1 (fun i j h1 h2 => by omega)⟩
  · rw [if_neg e]
    exact ⟨(s1.1 _ _ (by omega)).trans ((q2.1 _ _ (by omega)).trans (h s hs).1), fun T hT => (((h s hs).2 T hT).kept q2 (fun i j h1 h2 => by omega)).kept s1 (fun i j h1 h2 => by omega)⟩
theorem ct_X4_forgetAll : Ct G l 1 yX4_forgetAll cX4_forgetAll 2 none [.ref (G.2.2.1 104)] μ (fun r μ' => r = none ∧ (∀ C, CSl μ' C (fun _ => none)) ∧ Sme Psl μ μ') := by
  refine Ct.of 1 (by decide +kernel) rfl (Nat.le_of_ble_eq_true rfl) ?_
  show V G l RX4 cX4_forgetAll 2 _ false none _ 0 [some (.ref _), none] [] _
  refine R_iconst (v := nI 0) (n := 1) dX4_forgetAll_0 rfl rfl ?_
  refine R_istore_n (n := 2) dX4_forgetAll_1 rfl (Nat.le_of_ble_eq_true rfl) (Nat.le_of_ble_eq_true rfl) ?_
  refine down (z := 2) (P := fun j => ∀ μ1 : Mem, (∀ k, k < j → μ1.1 118 k = nI 0) → Sme Psl μ μ1 → V G l RX4 cX4_forgetAll 2 1 false _ _ 2 [some (.ref _), some (.int (nI j))] [] μ1) ?_ ?_ 0 (Nat.zero_le _) μ (fun k h => absurd h (by omega)) (Sme.rf _ _)
  · intro μ1 h1 h2
    refine R_iload_n (n := 3) dX4_forgetAll_2 rfl rfl ?_
    refine R_iconst (v := nI 2) (n := 4) dX4_forgetAll_3 rfl rfl ?_
    refine R_icmp_ge_t (tgt := 20) dX4_forgetAll_4 rfl (by rw [nI_leI (by omega) (by omega)]; omega) ?_
    refine R_ret dX4_forgetAll_20 rfl (⟨rfl, fun C s hs => ⟨h1 s hs, fun T hT => by cases hT⟩, h2⟩)
  · intro j hj ih μ1 h1 h2
    refine R_iload_n (n := 3) dX4_forgetAll_2 rfl rfl ?_
    refine R_iconst (v := nI 2) (n := 4) dX4_forgetAll_3 rfl rfl ?_
    refine R_icmp_ge_f (n := 7) dX4_forgetAll_4 rfl rfl (by rw [nI_leI (by omega) (by omega)]; omega) ?_
    refine R_aload_n (n := 8) dX4_forgetAll_7 rfl rfl ?_
    refine gf_X4_17 (n := 11) dX4_forgetAll_8 rfl ?_
    refine R_iload_n (n := 12) dX4_forgetAll_11 rfl rfl ?_
    refine R_iconst (v := nI 0) (n := 13) dX4_forgetAll_12 rfl rfl ?_
    refine R_zast (n := 14) sh_118 (rfl) (by omega) dX4_forgetAll_13 rfl ?_
    refine R_iinc (n := 17) dX4_forgetAll_14 rfl rfl (nI_1 _) (Nat.le_of_ble_eq_true rfl) ?_
    refine R_goto (tgt := 2) dX4_forgetAll_17 rfl ?_
    refine ih _ (fun k hk => ?_) (h2.sti (by omega))
    rw [sti_1]
    by_cases e : k = j
    · rw [if_pos ⟨rfl, e⟩]; rfl
    · rw [if_neg (fun z => e z.2)]; exact h1 k (by omega)
end AS

