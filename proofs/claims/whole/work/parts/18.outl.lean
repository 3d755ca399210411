/-! AT THE BASIN -/
def bas (C : CF) (S : ST) : ST := gos C C.1 (C.2.1 - sPsd S) S
def gnL (C : CF) (v : Nat) : Nat → ST → Int32 → Int32
  | 0, _, acc => acc
  | f + 1, S, acc => gnL C v f (pass1 C C.1 S) (if posF (sRow (pass1 C C.1 S)) v C.1 < posF (sRow S) v C.1 then acc ||| bt (sPsd S) else acc)
def mtsL (C : CF) (v : Nat) : Nat → ST → Int32 → Int32
  | 0, _, acc => acc
  | f + 1, S, acc => mtsL C v f (pass1 C C.1 S) (match mtL C.2.2.1 (sRow S) C.1 v C.1 0 with
    | none => acc
    | some m => acc ||| bt m)
theorem mtL_lt {len : Nat → Int32} {row : Nat → Nat} {z v n : Nat} (h : ∀ p, p < z → row p < n) : ∀ (f p m : Nat), mtL len row z v f p = some m → m < n := by
  intro f
  induction f with
  | zero => intro p m e; cases e
  | succ f ih =>
    intro p m e
    rw [mtL] at e
    by_cases hp : p < z
    · rw [if_pos hp] at e
      by_cases ht : twoF len row z p = true
      · rw [if_pos ht] at e
        rw [twoF, Bool.and_eq_true] at ht
        have hp1 := of_decide_eq_true ht.1
        by_cases e1 : row p = v
        · rw [if_pos e1] at e; cases e; exact h _ hp1
        · rw [if_neg e1] at e
          by_cases e2 : row (p + 1) = v
          · rw [if_pos e2] at e; cases e; exact h _ hp
          · rw [if_neg e2] at e; exact ih _ _ e
      · rw [if_neg ht] at e; exact ih _ _ e
    · rw [if_neg hp] at e; cases e
def suF (C : CF) (T : ST) (one other : Nat) : Bool := decide (sRow (bas C T) 0 = one) && !decide (sRow (bas C T) (C.1 - 1) = other)
def rowS (S : ST) (row : Nat → Nat) : ST := mkS row (sHrs S) (sTea S) (sLaw S) (sGvn S) (sPsd S)
/-! orders -/
def fct : Nat → Nat
  | 0 => 1
  | k + 1 => (k + 1) * fct k
theorem fac_eq : ∀ n, n < 7 → fac n = nI (fct n) := by decide +kernel
def prmL : Nat → List Nat → Nat → List Nat
  | 0, _, _ => []
  | m + 1, av, rest => av.getD (rest / fct m) 0 :: prmL m (av.erase (av.getD (rest / fct m) 0)) (rest % fct m)
def prm (n i : Nat) (k : Nat) : Nat := (prmL n (List.range n) i).getD k 0
def exc (ord : Nat → Nat) (i j : Nat) : Nat → Nat := fun k => if k = j then ord i else if k = i then ord j else ord k
def risF (ord : Nat → Nat) : Nat → Option Nat
  | 0 => none
  | r + 1 => if ord (r + 1) < ord r then risF ord r else some r
def grF (ord : Nat → Nat) (r : Nat) : Nat → Nat
  | 0 => 0
  | g + 1 => if r < g + 1 ∧ ord (g + 1) < ord r then grF ord r g else g + 1
def revF : Nat → Nat → Nat → (Nat → Nat) → Nat → Nat
  | 0, _, _, ord => ord
  | f + 1, lo, hi, ord => if lo < hi then revF f (lo + 1) (hi - 1) (exc ord lo hi) else ord
def mno (n : Nat) (ord : Nat → Nat) : Nat → Nat := match risF ord (n - 1) with
  | none => ord
  | some r => revF n (r + 1) (n - 1) (exc ord r (grF ord r (n - 1)))
set_option maxRecDepth 100000 in
theorem prm_next : ∀ n, n < 7 → ∀ i, i < fct n - 1 → ∀ k, k < n → mno n (prm n i) k = prm n (i + 1) k := by decide +kernel
theorem prm_zero : ∀ n, n < 7 → ∀ k, k < n → prm n 0 k = k := by decide +kernel
set_option maxRecDepth 100000 in
theorem prm_lt : ∀ n, n < 7 → ∀ i, i < fct n → ∀ k, k < n → prm n i k < n := by decide +kernel
def foL (C : CF) (S : ST) (one other : Nat) : Nat → Nat → Int32
  | 0, _ => -9
  | f + 1, i => if suF C (rowS S (prm C.1 i)) one other = true then fig (prm C.1 i) C.1 else foL C S one other f (i + 1)
def mI (k : Nat) : Int32 := nI k - nI 1
theorem mI_succ (k : Nat) : mI (k + 1) = nI k := by rw [mI, nI_sub (by omega)]; rfl
theorem mI_dec (k : Nat) : nI k + Int32.ofInt (-1) = mI k := by rw [mI, Int32.sub_eq_add_neg]; rfl
theorem mI_0 : mI 0 = -1 := rfl
section OL
variable {G : Gm} {l : Launch} {μ : Mem} {C : CF} {S : ST}
theorem ct_X3_gainsOf {v : Nat} (hQ : Qc μ C S) (hv : v < C.1) : Ct G l 4 yX3_gainsOf cX3_gainsOf 7 (some .int) [.ref (G.2.2.1 119), .ref (G.2.2.1 3), .int (nI v)] μ (fun r μ' => r = some (.int (gnL C v (C.2.1 - sPsd S) S (nI 0))) ∧ Sme Ptr μ μ') := by
  obtain ⟨hC, hS, hO, hP⟩ := hQ
  obtain ⟨o1, o2, o3, o4, o5, o6⟩ := id hO
  refine Ct.of 4 (by decide +kernel) rfl (Nat.le_of_ble_eq_true rfl) ?_
  show V G l RX3 cX3_gainsOf 7 _ false _ _ 0 [some (.ref _), some (.ref _), some (.int _), none, none, none, none] [] _
  refine R_aload_n (n := 1) dX3_gainsOf_0 rfl rfl ?_
  refine iv_X3_18 (n := 4) (ct_X1_newTrial) (by decide) dX3_gainsOf_1 rfl (Nat.le_of_ble_eq_true rfl) (fun r μ' hq => ?_)
  obtain ⟨rfl, c1, c2⟩ := hq
  have hT := cst_cpy o2 o1 (by omega) hS c1
  have hp6 := hT.2.2.2.2.2.2
  refine R_astore_n (n := 5) dX3_gainsOf_4 rfl (Nat.le_of_ble_eq_true rfl) (Nat.le_of_ble_eq_true rfl) ?_
  refine R_iconst (v := nI 0) (n := 6) dX3_gainsOf_5 rfl rfl ?_
  refine R_istore (n := 8) dX3_gainsOf_6 rfl (Nat.le_of_ble_eq_true rfl) (Nat.le_of_ble_eq_true rfl) ?_
  refine R_aload_n (n := 9) dX3_gainsOf_8 rfl rfl ?_
  refine ge_X3_24 (n := 12) stB_12 dX3_gainsOf_9 rfl (hp6) ?_
  refine R_istore (n := 14) dX3_gainsOf_12 rfl (Nat.le_of_ble_eq_true rfl) (Nat.le_of_ble_eq_true rfl) ?_
  have loop : ∀ (f : Nat) (T : ST) (acc : Int32) (μ1 : Mem) (j6 : Option Value), sPsd T + f = C.2.1 → CSt μ1 12 C.1 C T → Ok C C.1 T → Pm C.1 (sRow T) → Sme Ptr μ μ1 → V G l RX3 cX3_gainsOf 7 4 false (some .int) (fun r μ' => r = some (.int (gnL C v f T acc)) ∧ Sme Ptr μ μ') 14 [some (.ref (G.2.2.1 119)), some (.ref (G.2.2.1 3)), some (.int (nI v)), some (.ref (G.2.2.1 12)), some (.int acc), some (.int (nI (sPsd T))), j6] [] μ1 := by
    intro f
    induction f with
    | zero =>
      intro T acc μ1 j6 h1 h2 h3 h4 h5
      have hCL := (hC.kept h5 (by omega) (by omega) (fun j => by omega) (fun j => by omega)).1
      refine R_iload (n := 16) dX3_gainsOf_14 rfl rfl ?_
      refine R_aload_n (n := 17) dX3_gainsOf_16 rfl rfl ?_
      refine ge_X3_30 (n := 20) dX3_gainsOf_17 rfl (hCL) ?_
      refine R_icmp_ge_t (tgt := 60) dX3_gainsOf_20 rfl (by rw [nI_leI (by omega) (by omega)]; omega) ?_
      refine R_iload (n := 62) dX3_gainsOf_60 rfl rfl ?_
      refine R_iret dX3_gainsOf_62 rfl (rfl) (⟨rfl, h5⟩)
    | succ f ih =>
      intro T acc μ1 j6 h1 h2 h3 h4 h5
      have hC1 := hC.kept h5 (by omega) (by omega) (fun j => by omega) (fun j => by omega)
      have hCL := hC1.1
      refine R_iload (n := 16) dX3_gainsOf_14 rfl rfl ?_
      refine R_aload_n (n := 17) dX3_gainsOf_16 rfl rfl ?_
      refine ge_X3_30 (n := 20) dX3_gainsOf_17 rfl (hCL) ?_
      refine R_icmp_ge_f (n := 23) dX3_gainsOf_20 rfl rfl (by rw [nI_leI (by omega) (by omega)]; omega) ?_
      refine R_aload_n (n := 24) dX3_gainsOf_23 rfl rfl ?_
      refine R_iload_n (n := 25) dX3_gainsOf_24 rfl rfl ?_
      obtain ⟨p1, p2, p3⟩ := pos_spec h4 hv
      refine iv_X3_33 (n := 28) (ct_X5_placeOf stB_12 o1 h2.2.2.2.2.2.1 h2.1 (fun p hp => Nat.lt_of_lt_of_le (h3.2.2.2.1 p hp) o1) (by omega) p1 p2 p3) stB_12 (by decide) dX3_gainsOf_25 rfl (Nat.le_of_ble_eq_true rfl) (fun r μ' hq => ?_)
      obtain ⟨rfl, hq⟩ := hq
      have hq := hq.symm
      subst hq
      refine R_istore (n := 30) dX3_gainsOf_28 rfl (Nat.le_of_ble_eq_true rfl) (Nat.le_of_ble_eq_true rfl) ?_
      refine R_aload_n (n := 31) dX3_gainsOf_30 rfl rfl ?_
      refine R_aload_n (n := 32) dX3_gainsOf_31 rfl rfl ?_
      refine iv_X3_37 (n := 35) (ct_X1_goThroughNext stB_12 (by omega) hC1 h2 h3 (by omega)) (by decide) dX3_gainsOf_32 rfl (Nat.le_of_ble_eq_true rfl) (fun r μ' hq => ?_)
      obtain ⟨rfl, g1, g2⟩ := hq
      have h3' := ok_pass1 h3 (by omega)
      have h4' := pm_pass1 h4
      refine R_aload_n (n := 36) dX3_gainsOf_35 rfl rfl ?_
      refine R_iload_n (n := 37) dX3_gainsOf_36 rfl rfl ?_
      obtain ⟨q1, q2, q3⟩ := pos_spec h4' hv
      refine iv_X3_33 (n := 40) (ct_X5_placeOf stB_12 o1 g1.2.2.2.2.2.1 g1.1 (fun p hp => Nat.lt_of_lt_of_le (h3'.2.2.2.1 p hp) o1) (by omega) q1 q2 q3) stB_12 (by decide) dX3_gainsOf_37 rfl (Nat.le_of_ble_eq_true rfl) (fun r μ' hq => ?_)
      obtain ⟨rfl, hq⟩ := hq
      have hq := hq.symm
      subst hq
      have h5' : Sme Ptr μ μ' := h5.tr (g2.mono (fun i j h => by omega))
      refine R_iload (n := 42) dX3_gainsOf_40 rfl rfl ?_
      rw [gnL]
      refine R_icmp_ge (n := 45) (tgt := 54) dX3_gainsOf_42 rfl rfl (fun h => ?_) (fun h => ?_)
      · rw [nI_leI (by omega) (by omega)] at h
        rw [if_neg (by omega)]
        refine R_iinc (n := 57) dX3_gainsOf_54 rfl rfl (nI_1 _) (Nat.le_of_ble_eq_true rfl) ?_
        refine R_goto (tgt := 14) dX3_gainsOf_57 rfl ?_
        exact ih (pass1 C C.1 T) acc μ' _ (by rw [sPsd_pass1]; omega) g1 h3' h4' h5'
      · rw [nI_leI (by omega) (by omega)] at h
        rw [if_pos (by omega)]
        refine R_iload (n := 47) dX3_gainsOf_45 rfl rfl ?_
        refine R_iconst (v := nI 1) (n := 48) dX3_gainsOf_47 rfl rfl ?_
        refine R_iload (n := 50) dX3_gainsOf_48 rfl rfl ?_
        refine R_ishl (n := 51) dX3_gainsOf_50 rfl ?_
        refine R_ior (n := 52) dX3_gainsOf_51 rfl ?_
        refine R_istore (n := 54) dX3_gainsOf_52 rfl (Nat.le_of_ble_eq_true rfl) (Nat.le_of_ble_eq_true rfl) ?_
        refine R_iinc (n := 57) dX3_gainsOf_54 rfl rfl (nI_1 _) (Nat.le_of_ble_eq_true rfl) ?_
        refine R_goto (tgt := 14) dX3_gainsOf_57 rfl ?_
        exact ih (pass1 C C.1 T) _ μ' _ (by rw [sPsd_pass1]; omega) g1 h3' h4' h5'
  exact loop (C.2.1 - sPsd S) S (nI 0) _ _ (by omega) hT hO hP c2
theorem ct_X3_matesOf {v : Nat} (hQ : Qc μ C S) (hv : v < C.1) : Ct G l 4 yX3_matesOf cX3_matesOf 7 (some .int) [.ref (G.2.2.1 119), .ref (G.2.2.1 3), .int (nI v)] μ (fun r μ' => r = some (.int (mtsL C v (C.2.1 - sPsd S) S (nI 0))) ∧ Sme Ptr μ μ') := by
  obtain ⟨hC, hS, hO, hP⟩ := hQ
  obtain ⟨o1, o2, o3, o4, o5, o6⟩ := id hO
  refine Ct.of 4 (by decide +kernel) rfl (Nat.le_of_ble_eq_true rfl) ?_
  show V G l RX3 cX3_matesOf 7 _ false _ _ 0 [some (.ref _), some (.ref _), some (.int _), none, none, none, none] [] _
  refine R_aload_n (n := 1) dX3_matesOf_0 rfl rfl ?_
  refine iv_X3_18 (n := 4) (ct_X1_newTrial) (by decide) dX3_matesOf_1 rfl (Nat.le_of_ble_eq_true rfl) (fun r μ' hq => ?_)
  obtain ⟨rfl, c1, c2⟩ := hq
  have hT := cst_cpy o2 o1 (by omega) hS c1
  have hp6 := hT.2.2.2.2.2.2
  refine R_astore_n (n := 5) dX3_matesOf_4 rfl (Nat.le_of_ble_eq_true rfl) (Nat.le_of_ble_eq_true rfl) ?_
  refine R_iconst (v := nI 0) (n := 6) dX3_matesOf_5 rfl rfl ?_
  refine R_istore (n := 8) dX3_matesOf_6 rfl (Nat.le_of_ble_eq_true rfl) (Nat.le_of_ble_eq_true rfl) ?_
  refine R_aload_n (n := 9) dX3_matesOf_8 rfl rfl ?_
  refine ge_X3_24 (n := 12) stB_12 dX3_matesOf_9 rfl (hp6) ?_
  refine R_istore (n := 14) dX3_matesOf_12 rfl (Nat.le_of_ble_eq_true rfl) (Nat.le_of_ble_eq_true rfl) ?_
  have loop : ∀ (f : Nat) (T : ST) (acc : Int32) (μ1 : Mem) (j6 : Option Value), sPsd T + f = C.2.1 → CSt μ1 12 C.1 C T → Ok C C.1 T → Sme Ptr μ μ1 → V G l RX3 cX3_matesOf 7 4 false (some .int) (fun r μ' => r = some (.int (mtsL C v f T acc)) ∧ Sme Ptr μ μ') 14 [some (.ref (G.2.2.1 119)), some (.ref (G.2.2.1 3)), some (.int (nI v)), some (.ref (G.2.2.1 12)), some (.int acc), some (.int (nI (sPsd T))), j6] [] μ1 := by
    intro f
    induction f with
    | zero =>
      intro T acc μ1 j6 h1 h2 h3 h5
      have hCL := (hC.kept h5 (by omega) (by omega) (fun j => by omega) (fun j => by omega)).1
      refine R_iload (n := 16) dX3_matesOf_14 rfl rfl ?_
      refine R_aload_n (n := 17) dX3_matesOf_16 rfl rfl ?_
      refine ge_X3_30 (n := 20) dX3_matesOf_17 rfl (hCL) ?_
      refine R_icmp_ge_t (tgt := 58) dX3_matesOf_20 rfl (by rw [nI_leI (by omega) (by omega)]; omega) ?_
      refine R_iload (n := 60) dX3_matesOf_58 rfl rfl ?_
      refine R_iret dX3_matesOf_60 rfl (rfl) (⟨rfl, h5⟩)
    | succ f ih =>
      intro T acc μ1 j6 h1 h2 h3 h5
      have hC1 := hC.kept h5 (by omega) (by omega) (fun j => by omega) (fun j => by omega)
      have hCL := hC1.1
      have tail : ∀ (acc : Int32) (j6 : Option Value), V G l RX3 cX3_matesOf 7 4 false (some .int) (fun r μ' => r = some (.int (mtsL C v f (pass1 C C.1 T) acc)) ∧ Sme Ptr μ μ') 47 [some (.ref (G.2.2.1 119)), some (.ref (G.2.2.1 3)), some (.int (nI v)), some (.ref (G.2.2.1 12)), some (.int acc), some (.int (nI (sPsd T))), j6] [] μ1 := by
        intro acc j6
        refine R_aload_n (n := 48) dX3_matesOf_47 rfl rfl ?_
        refine R_aload_n (n := 49) dX3_matesOf_48 rfl rfl ?_
        refine iv_X3_37 (n := 52) (ct_X1_goThroughNext stB_12 (by omega) hC1 h2 h3 (by omega)) (by decide) dX3_matesOf_49 rfl (Nat.le_of_ble_eq_true rfl) (fun r μ' hq => ?_)
        obtain ⟨rfl, g1, g2⟩ := hq
        refine R_iinc (n := 55) dX3_matesOf_52 rfl rfl (nI_1 _) (Nat.le_of_ble_eq_true rfl) ?_
        refine R_goto (tgt := 14) dX3_matesOf_55 rfl ?_
        exact ih (pass1 C C.1 T) acc _ _ (by rw [sPsd_pass1]; omega) g1 (ok_pass1 h3 (by omega)) (h5.tr (g2.mono (fun i j h => by omega)))
      refine R_iload (n := 16) dX3_matesOf_14 rfl rfl ?_
      refine R_aload_n (n := 17) dX3_matesOf_16 rfl rfl ?_
      refine ge_X3_30 (n := 20) dX3_matesOf_17 rfl (hCL) ?_
      refine R_icmp_ge_f (n := 23) dX3_matesOf_20 rfl rfl (by rw [nI_leI (by omega) (by omega)]; omega) ?_
      refine R_aload_n (n := 24) dX3_matesOf_23 rfl rfl ?_
      refine R_aload_n (n := 25) dX3_matesOf_24 rfl rfl ?_
      refine R_iload_n (n := 26) dX3_matesOf_25 rfl rfl ?_
      refine iv_X3_41 (n := 29) (ct_X1_mateAtNext stB_12 o1 (Nat.le_refl _) h2.2.2.2.2.2.1 h2.1 h3.2.2.2.1 hC1.2.2.1 (by omega)) (by decide) dX3_matesOf_26 rfl (Nat.le_of_ble_eq_true rfl) (fun r μ' hq => ?_)
      obtain ⟨rfl, hq⟩ := hq
      have hq := hq.symm
      subst hq
      refine R_istore (n := 31) dX3_matesOf_29 rfl (Nat.le_of_ble_eq_true rfl) (Nat.le_of_ble_eq_true rfl) ?_
      refine R_iload (n := 33) dX3_matesOf_31 rfl rfl ?_
      refine R_bipush (v := -9) (n := 35) dX3_matesOf_33 rfl rfl ?_
      rw [mtsL]
      cases hm : mtL C.2.2.1 (sRow T) C.1 v C.1 0 with
      | none =>
        refine R_icmp_eq_t (tgt := 47) dX3_matesOf_35 rfl (rfl) ?_
        exact tail acc _
      | some m =>
        have hm6 := mtL_lt (n := C.1) h3.2.2.2.1 _ _ _ hm
        have H9 : ∀ m, m < 6 → ¬ nI m = -9 := by decide +kernel
        refine R_icmp_eq_f (n := 38) dX3_matesOf_35 rfl rfl (H9 m (by omega)) ?_
        refine R_iload (n := 40) dX3_matesOf_38 rfl rfl ?_
        refine R_iconst (v := nI 1) (n := 41) dX3_matesOf_40 rfl rfl ?_
        refine R_iload (n := 43) dX3_matesOf_41 rfl rfl ?_
        refine R_ishl (n := 44) dX3_matesOf_43 rfl ?_
        refine R_ior (n := 45) dX3_matesOf_44 rfl ?_
        refine R_istore (n := 47) dX3_matesOf_45 rfl (Nat.le_of_ble_eq_true rfl) (Nat.le_of_ble_eq_true rfl) ?_
        exact tail _ _
  exact loop (C.2.1 - sPsd S) S (nI 0) _ _ (by omega) hT hO c2
theorem ct_X3_suits {T : ST} {one other : Nat} (hC : CCf μ C) (hT : CSt μ 12 C.1 C T) (hO : Ok C C.1 T) (h1 : one < C.1) (h2 : other < C.1) : Ct G l 5 yX3_suits cX3_suits 5 (some .boolean) [.ref (G.2.2.1 119), .ref (G.2.2.1 3), .ref (G.2.2.1 12), .int (nI one), .int (nI other)] μ (fun r μ' => r = some (.int (bi (suF C T one other))) ∧ Sme Ptr μ μ') := by
  obtain ⟨o1, o2, o3, o4, o5, o6⟩ := id hO
  have hOb := ok_gos (C.2.1 - sPsd T) T hO (by omega)
  refine Ct.of 0 (by decide +kernel) rfl (Nat.le_of_ble_eq_true rfl) ?_
  show V G l RX3 cX3_suits 5 _ false _ _ 0 [some (.ref _), some (.ref _), some (.ref _), some (.int _), some (.int _)] [] _
  refine R_aload_n (n := 1) dX3_suits_0 rfl rfl ?_
  refine R_aload_n (n := 2) dX3_suits_1 rfl rfl ?_
  refine R_aload_n (n := 3) dX3_suits_2 rfl rfl ?_
  refine ge_X3_30 (n := 6) dX3_suits_3 rfl (hC.1) ?_
  refine iv_X3_75 (n := 9) (ct_X1_goOnTo stB_12 (by omega) hC hT hO (Nat.le_refl _) o6) (by decide) dX3_suits_6 rfl (Nat.le_of_ble_eq_true rfl) (fun r μ' hq => ?_)
  obtain ⟨rfl, g1, g2⟩ := hq
  have hC' := hC.kept g2 (by omega) (by omega) (fun j => by omega) (fun j => by omega)
  have hcn := hC'.2.1
  have g3 : Sme Ptr μ μ' := g2.mono (fun i j h => by omega)
  refine R_aload_n (n := 10) dX3_suits_9 rfl rfl ?_
  refine R_iconst (v := nI 0) (n := 11) dX3_suits_10 rfl rfl ?_
  refine R_iload_n (n := 12) dX3_suits_11 rfl rfl ?_
  refine iv_X3_79 (n := 15) (ct_X5_isAt (p := 0) stB_12 o1 g1.2.2.2.2.2.1 g1.1 (by omega)) stB_12 (by decide) dX3_suits_12 rfl (Nat.le_of_ble_eq_true rfl) (fun r μ' hq => ?_)
  obtain ⟨rfl, hq⟩ := hq
  have hq := hq.symm
  subst hq
  have r0 : sRow (bas C T) 0 < C.1 := hOb.2.2.2.1 0 (by omega)
  have r1 : sRow (bas C T) (C.1 - 1) < C.1 := hOb.2.2.2.1 (C.1 - 1) (by omega)
  by_cases e : sRow (bas C T) 0 = one
  · rw [show bi (decide (0 < C.1 ∧ nI (sRow (gos C C.1 (C.2.1 - sPsd T) T) 0) = nI one)) = nI 1 by rw [decide_eq_true ⟨by omega, congrArg nI e⟩]; rfl]
    refine R_if_eq_f (n := 18) dX3_suits_15 rfl rfl (by decide) ?_
    refine R_aload_n (n := 19) dX3_suits_18 rfl rfl ?_
    refine R_aload_n (n := 20) dX3_suits_19 rfl rfl ?_
    refine ge_X3_45 (n := 23) dX3_suits_20 rfl (hcn) ?_
    refine R_iconst (v := nI 1) (n := 24) dX3_suits_23 rfl rfl ?_
    refine R_isub_n (n := 25) dX3_suits_24 ((by omega)) rfl ?_
    refine R_iload (n := 27) dX3_suits_25 rfl rfl ?_
    refine iv_X3_79 (n := 30) (ct_X5_isAt (p := C.1 - 1) stB_12 o1 g1.2.2.2.2.2.1 g1.1 (by omega)) stB_12 (by decide) dX3_suits_27 rfl (Nat.le_of_ble_eq_true rfl) (fun r μ' hq => ?_)
    obtain ⟨rfl, hq⟩ := hq
    have hq := hq.symm
    subst hq
    by_cases e2 : sRow (bas C T) (C.1 - 1) = other
    · rw [show bi (decide (C.1 - 1 < C.1 ∧ nI (sRow (gos C C.1 (C.2.1 - sPsd T) T) (C.1 - 1)) = nI other)) = nI 1 by rw [decide_eq_true ⟨by omega, congrArg nI e2⟩]; rfl]
      refine R_if_ne_t (tgt := 37) dX3_suits_30 rfl (by decide) ?_
      refine R_iconst (v := nI 0) (n := 38) dX3_suits_37 rfl rfl ?_
      refine R_iret dX3_suits_38 rfl (by first | rfl | exact nar_bi _) (⟨by rw [suF, decide_eq_true e, decide_eq_true e2]; rfl, g3⟩)
    · rw [show bi (decide (C.1 - 1 < C.1 ∧ nI (sRow (gos C C.1 (C.2.1 - sPsd T) T) (C.1 - 1)) = nI other)) = nI 0 by rw [decide_eq_false (fun z => e2 ((nI_eq (by omega) (by omega)).mp z.2))]; rfl]
      refine R_if_ne_f (n := 33) dX3_suits_30 rfl rfl (by decide) ?_
      refine R_iconst (v := nI 1) (n := 34) dX3_suits_33 rfl rfl ?_
      refine R_goto (tgt := 38) dX3_suits_34 rfl ?_
      refine R_iret dX3_suits_38 rfl (by first | rfl | exact nar_bi _) (⟨by rw [suF, decide_eq_true e, decide_eq_false e2]; rfl, g3⟩)
  · rw [show bi (decide (0 < C.1 ∧ nI (sRow (gos C C.1 (C.2.1 - sPsd T) T) 0) = nI one)) = nI 0 by rw [decide_eq_false (fun z => e ((nI_eq (by omega) (by omega)).mp z.2))]; rfl]
    refine R_if_eq_t (tgt := 37) dX3_suits_15 rfl (by decide) ?_
    refine R_iconst (v := nI 0) (n := 38) dX3_suits_37 rfl rfl ?_
    refine R_iret dX3_suits_38 rfl (by first | rfl | exact nar_bi _) (⟨by rw [suF, decide_eq_false e]; rfl, g3⟩)
def COr (μ : Mem) (n : Nat) (ord : Nat → Nat) : Prop := ∀ k, k < n → μ.1 120 k = nI (ord k)
theorem ct_X3_exchange {i j n : Nat} {ord : Nat → Nat} (h : COr μ n ord) (hn : n ≤ 6) (hi : i < n) (hj : j < n) : Ct G l 1 yX3_exchange cX3_exchange 4 none [.ref (G.2.2.1 119), .int (nI i), .int (nI j)] μ (fun r μ' => r = none ∧ COr μ' n (exc ord i j) ∧ Sme (fun i _ => i = 120) μ μ') := by
  refine Ct.of 1 (by decide +kernel) rfl (Nat.le_of_ble_eq_true rfl) ?_
  show V G l RX3 cX3_exchange 4 _ false none _ 0 [some (.ref _), some (.int _), some (.int _), none] [] _
  refine R_aload_n (n := 1) dX3_exchange_0 rfl rfl ?_
  refine gf_X3_9 (n := 4) dX3_exchange_1 rfl ?_
  refine R_iload_n (n := 5) dX3_exchange_4 rfl rfl ?_
  refine R_iald (n := 6) sh_120 (rfl) (by omega) dX3_exchange_5 rfl ?_
  refine R_istore_n (n := 7) dX3_exchange_6 rfl (Nat.le_of_ble_eq_true rfl) (Nat.le_of_ble_eq_true rfl) ?_
  refine R_aload_n (n := 8) dX3_exchange_7 rfl rfl ?_
  refine gf_X3_9 (n := 11) dX3_exchange_8 rfl ?_
  refine R_iload_n (n := 12) dX3_exchange_11 rfl rfl ?_
  refine R_aload_n (n := 13) dX3_exchange_12 rfl rfl ?_
  refine gf_X3_9 (n := 16) dX3_exchange_13 rfl ?_
  refine R_iload_n (n := 17) dX3_exchange_16 rfl rfl ?_
  refine R_iald (n := 18) sh_120 (rfl) (by omega) dX3_exchange_17 rfl ?_
  refine R_iast (n := 19) sh_120 (rfl) (by omega) dX3_exchange_18 rfl ?_
  refine R_aload_n (n := 20) dX3_exchange_19 rfl rfl ?_
  refine gf_X3_9 (n := 23) dX3_exchange_20 rfl ?_
  refine R_iload_n (n := 24) dX3_exchange_23 rfl rfl ?_
  refine R_iload_n (n := 25) dX3_exchange_24 rfl rfl ?_
  refine R_iast (n := 26) sh_120 (rfl) (by omega) dX3_exchange_25 rfl ?_
  refine R_ret dX3_exchange_26 rfl ⟨rfl, fun k hk => ?_, ((Sme.rf (fun i _ => i = 120) _).sti rfl).sti rfl⟩
  unfold exc
  rw [sti_1]
  by_cases e1 : k = j
  · rw [if_pos ⟨rfl, e1⟩, if_pos e1, h i hi]
  · rw [if_neg (fun z => e1 z.2), if_neg e1, sti_1]
    by_cases e2 : k = i
    · rw [if_pos ⟨rfl, e2⟩, if_pos e2, h j hj]
    · rw [if_neg (fun z => e2 z.2), if_neg e2, h k hk]
end OL

