/-! THE MODEL: `in`, sets, a State as 54 numbers -/
theorem cmp_lt (x y : Int64) : (lg_cmp x y < 0) ↔ x < y := by
  unfold lg_cmp
  by_cases h : x > y
  · rw [if_pos h]
    exact ⟨fun z => absurd z (by decide), fun z => absurd (Int64.lt_trans z h) Int64.lt_irrefl⟩
  · rw [if_neg h]
    by_cases e : x = y
    · rw [if_pos e, e]
      exact ⟨fun z => absurd z (by decide), fun z => absurd z Int64.lt_irrefl⟩
    · rw [if_neg e]
      refine ⟨fun _ => ?_, fun _ => by decide⟩
      exact Int64.lt_of_le_of_ne (Int64.not_lt.mp h) e
theorem cmp_gt (x y : Int64) : (0 < lg_cmp x y) ↔ y < x := by
  unfold lg_cmp
  by_cases h : x > y
  · rw [if_pos h]; exact ⟨fun _ => h, fun _ => by decide⟩
  · rw [if_neg h]
    by_cases e : x = y
    · rw [if_pos e]
      exact ⟨fun z => absurd z (by decide), fun z => absurd z h⟩
    · rw [if_neg e]
      exact ⟨fun z => absurd z (by decide), fun z => absurd z h⟩
theorem i64_lt (x y : Int32) : x.toInt64 < y.toInt64 ↔ x < y := by
  rw [Int64.lt_iff_toInt_lt, Int32.lt_iff_toInt_lt, Int32.toInt_toInt64, Int32.toInt_toInt64]
def inI (x lo hi : Int32) : Bool := decide (¬ x < lo) && decide (¬ hi < x)
theorem inI_bar {x : Int32} {n : Nat} (hn : n < 2 ^ 31) : inI x 0 (nI n - nI 1) = inR x n := by
  unfold inI inR
  congr 1
  refine decide_eq_decide.mpr ?_
  have h1 : (nI n - nI 1).toInt = (n : Int) - 1 := by
    rw [Int32.toInt_sub, nI_toInt hn]
    show ((n : Int) - 1).bmod (2 ^ 32) = (n : Int) - 1
    exact Int.bmod_eq_of_le (by omega) (by omega)
  rw [Int32.lt_iff_toInt_lt, Int32.le_iff_toInt_le, h1, nI_toInt hn]
  omega
def MCf (μ : Mem) (C : CF) : Prop := μ.1 125 0 = nI C.2.1 ∧ μ.1 125 1 = nI C.1 ∧ (∀ j, j < C.1 → μ.1 126 j = C.2.2.1 j) ∧ ∀ j, j < C.1 → μ.1 127 j = C.2.2.2 j
def MSt (μ : Mem) (id off z : Nat) (C : CF) (S : ST) : Prop := (∀ p, p < z → μ.1 id (off + p) = nI (sRow S p)) ∧ (∀ j, j < C.1 → μ.1 id (off + 6 + j) = sHrs S j) ∧ (∀ k, k < C.2.1 → μ.1 id (off + 12 + k) = nI (sLaw S k)) ∧ (∀ j, j < C.1 → μ.1 id (off + 17 + j) = nI (sTea S j)) ∧ (∀ e, e < 30 → μ.1 id (off + 23 + e) = sGvn S e) ∧ μ.1 id (off + 53) = nI (sPsd S)
abbrev Pblk (id off : Nat) : Nat → Nat → Prop := fun i j => i = id ∧ off ≤ j ∧ j < off + 54
theorem MSt.kept {μ μ1 : Mem} {id off z : Nat} {C : CF} {S : ST} {P : Nat → Nat → Prop} (h : MSt μ id off z C S) (hC : C.1 ≤ 6 ∧ C.2.1 ≤ 5 ∧ z ≤ 6) (hs : Sme P μ μ1) (hn : ∀ j, off ≤ j → j < off + 54 → ¬ P id j) : MSt μ1 id off z C S :=
  ⟨fun p hp => (hs.1 _ _ (hn _ (by omega) (by omega))).trans (h.1 p hp), fun p hp => (hs.1 _ _ (hn _ (by omega) (by omega))).trans (h.2.1 p hp), fun p hp => (hs.1 _ _ (hn _ (by omega) (by omega))).trans (h.2.2.1 p hp), fun p hp => (hs.1 _ _ (hn _ (by omega) (by omega))).trans (h.2.2.2.1 p hp), fun p hp => (hs.1 _ _ (hn _ (by omega) (by omega))).trans (h.2.2.2.2.1 p hp), (hs.1 _ _ (hn _ (by omega) (by omega))).trans h.2.2.2.2.2⟩
theorem mst_cpy {μ μ1 : Mem} {id off id1 off1 z : Nat} {C : CF} {S : ST} (h : MSt μ id off z C S) (hC : C.1 ≤ 6 ∧ C.2.1 ≤ 5 ∧ z ≤ 6) (hc : ∀ k, k < 54 → μ1.1 id1 (off1 + k) = μ.1 id (off + k)) : MSt μ1 id1 off1 z C S := by
  have e : ∀ a k : Nat, a + k < 54 → μ1.1 id1 (off1 + a + k) = μ.1 id (off + a + k) := fun a k hk => by rw [Nat.add_assoc, Nat.add_assoc]; exact hc _ hk
  exact ⟨fun p hp => (hc p (by omega)).trans (h.1 p hp), fun p hp => (e 6 p (by omega)).trans (h.2.1 p hp), fun p hp => (e 12 p (by omega)).trans (h.2.2.1 p hp), fun p hp => (e 17 p (by omega)).trans (h.2.2.2.1 p hp), fun p hp => (e 23 p (by omega)).trans (h.2.2.2.2.1 p hp), (hc 53 (by omega)).trans h.2.2.2.2.2⟩
theorem MCf.kept {μ μ1 : Mem} {C : CF} {P : Nat → Nat → Prop} (hC : MCf μ C) (h : Sme P μ μ1) (h0 : ¬ P 125 0) (h1 : ¬ P 125 1) (h4 : ∀ j, ¬ P 126 j) (h6 : ∀ j, ¬ P 127 j) : MCf μ1 C :=
  ⟨(h.1 _ _ h0).trans hC.1, (h.1 _ _ h1).trans hC.2.1, fun j hj => (h.1 _ _ (h4 j)).trans (hC.2.2.1 j hj), fun j hj => (h.1 _ _ (h6 j)).trans (hC.2.2.2 j hj)⟩
theorem mx_comm' (x y : Int32) : (if y < x then x else y) = mx x y := by
  unfold mx
  by_cases h : x < y
  · rw [if_pos h, if_neg (fun z => absurd (Int32.lt_trans h z) Int32.lt_irrefl)]
  · rw [if_neg h]
    by_cases h2 : y < x
    · rw [if_pos h2]
    · rw [if_neg h2]; exact Int32.le_antisymm (Int32.not_lt.mp h2) (Int32.not_lt.mp h) |>.symm ▸ rfl
section M1
variable {G : Gm} {l : Launch} {μ : Mem} {C : CF} {S : ST} {z lv : Nat}
theorem ct_X8_in (a b c : Int32) : Ct G l 1 yX8_in cX8_in 6 (some .boolean) [.long a.toInt64, .long b.toInt64, .long c.toInt64] μ (fun r μ' => r = some (.int (bi (inI a b c))) ∧ μ' = μ) := by
  refine Ct.ofLm (lg := true) (lo := [some (.long a.toInt64), none, some (.long b.toInt64), none, some (.long c.toInt64), none]) (by decide +kernel) (lm_ent (Nat.le_of_ble_eq_true rfl) (fun i w hi => ?_)) ?_
  · match i, hi with
    | 0, hi => cases hi; exact List.mem_cons_self
    | 1, hi => cases hi
    | 2, hi => cases hi; exact List.mem_cons_of_mem _ List.mem_cons_self
    | 3, hi => cases hi
    | 4, hi => cases hi; exact List.mem_cons_of_mem _ (List.mem_cons_of_mem _ List.mem_cons_self)
    | 5, hi => cases hi
    | i + 6, hi => simp at hi
  show V G l RX8 cX8_in 6 1 true (some .boolean) _ 0 [some (.long a.toInt64), none, some (.long b.toInt64), none, some (.long c.toInt64), none] [] μ
  refine R_lload_n (n := 1) dX8_in_0 rfl rfl ?_
  refine R_lload_n (n := 2) dX8_in_1 rfl rfl ?_
  refine R_lcmp (n := 3) dX8_in_2 rfl ?_
  refine R_if_lt (n := 6) (tgt := 17) dX8_in_3 rfl rfl (fun h1 => ?_) (fun h1 => ?_)
  · rw [cmp_lt, i64_lt] at h1
    refine R_iconst (v := nI 0) (n := 18) dX8_in_17 rfl rfl ?_
    refine R_iret dX8_in_18 rfl (by first | rfl | exact nar_bi _) (⟨by rw [inI, decide_eq_false (fun z => z h1)]; rfl, rfl⟩)
  · rw [cmp_lt, i64_lt] at h1
    refine R_lload_n (n := 7) dX8_in_6 rfl rfl ?_
    refine R_lload (n := 9) dX8_in_7 rfl rfl ?_
    refine R_lcmp (n := 10) dX8_in_9 rfl ?_
    refine R_if_gt (n := 13) (tgt := 17) dX8_in_10 rfl rfl (fun h2 => ?_) (fun h2 => ?_)
    · rw [cmp_gt, i64_lt] at h2
      refine R_iconst (v := nI 0) (n := 18) dX8_in_17 rfl rfl ?_
      refine R_iret dX8_in_18 rfl (by first | rfl | exact nar_bi _) (⟨by rw [inI, decide_eq_false (p := ¬ c < a) (fun z => z h2), Bool.and_false]; rfl, rfl⟩)
    · rw [cmp_gt, i64_lt] at h2
      refine R_iconst (v := nI 1) (n := 14) dX8_in_13 rfl rfl ?_
      refine R_goto (tgt := 18) dX8_in_14 rfl ?_
      refine R_iret dX8_in_18 rfl (by first | rfl | exact nar_bi _) (⟨by rw [inI, decide_eq_true h1, decide_eq_true h2]; rfl, rfl⟩)
theorem ct_X8_has {s k : Nat} (hs : s < 64) (hk : k < 6) : Ct G l 1 yX8_has cX8_has 2 (some .boolean) [.int (nI s), .int (nI k)] μ (fun r μ' => r = some (.int (bi (decide (tb s k = 1)))) ∧ μ' = μ) := by
  have hb := tb_le s k
  refine Ct.of 0 (by decide +kernel) rfl (Nat.le_of_ble_eq_true rfl) ?_
  show V G l RX8 cX8_has 2 _ false _ _ 0 [some (.int _), some (.int _)] [] _
  refine R_iload_n (n := 1) dX8_has_0 rfl rfl ?_
  refine R_iload_n (n := 2) dX8_has_1 rfl rfl ?_
  refine R_ishr (n := 3) dX8_has_2 rfl ?_
  refine R_iconst (v := nI 1) (n := 4) dX8_has_3 rfl rfl ?_
  refine R_iand (n := 5) dX8_has_4 rfl ?_
  rw [bit_at s hs k hk]
  refine R_iconst (v := nI 1) (n := 6) dX8_has_5 rfl rfl ?_
  refine R_icmp_ne (n := 9) (tgt := 13) dX8_has_6 rfl rfl (fun h => ?_) (fun h => ?_)
  · rw [nI_eq (by omega) (by omega)] at h
    refine R_iconst (v := nI 0) (n := 14) dX8_has_13 rfl rfl ?_
    refine R_iret dX8_has_14 rfl (by first | rfl | exact nar_bi _) (⟨by rw [decide_eq_false h]; rfl, rfl⟩)
  · rw [nI_eq (by omega) (by omega)] at h
    refine R_iconst (v := nI 1) (n := 10) dX8_has_9 rfl rfl ?_
    refine R_goto (tgt := 14) dX8_has_10 rfl ?_
    refine R_iret dX8_has_14 rfl (by first | rfl | exact nar_bi _) (⟨by rw [decide_eq_true h]; rfl, rfl⟩)
theorem ct_X8_ones {s : Nat} (hs : s < 64) : Ct G l 1 yX8_ones cX8_ones 3 (some .int) [.int (nI s)] μ (fun r μ' => r = some (.int (nI (bc s))) ∧ μ' = μ) := by
  refine Ct.of 2 (by decide +kernel) rfl (Nat.le_of_ble_eq_true rfl) ?_
  show V G l RX8 cX8_ones 3 _ false _ _ 0 [some (.int _), none, none] [] _
  refine R_iconst (v := nI 0) (n := 1) dX8_ones_0 rfl rfl ?_
  refine R_istore_n (n := 2) dX8_ones_1 rfl (Nat.le_of_ble_eq_true rfl) (Nat.le_of_ble_eq_true rfl) ?_
  refine R_iconst (v := nI 0) (n := 3) dX8_ones_2 rfl rfl ?_
  refine R_istore_n (n := 4) dX8_ones_3 rfl (Nat.le_of_ble_eq_true rfl) (Nat.le_of_ble_eq_true rfl) ?_
  refine down (z := 6) (P := fun j => V G l RX8 cX8_ones 3 1 false _ _ 4 [some (.int (nI s)), some (.int (sm (fun k => nI (tb s k)) j)), some (.int (nI j))] [] _) ?_ ?_ 0 (Nat.zero_le _)
  · refine R_iload_n (n := 5) dX8_ones_4 rfl rfl ?_
    refine R_bipush (v := nI 6) (n := 7) dX8_ones_5 rfl rfl ?_
    refine R_icmp_ge_t (tgt := 24) dX8_ones_7 rfl (by rw [nI_leI (by omega) (by omega)]; omega) ?_
    refine R_iload_n (n := 25) dX8_ones_24 rfl rfl ?_
    have e : sm (fun k => nI (tb s k)) 6 = nI (bc s) := by
      unfold bc
      simp only [sm, nI_add]
      rw [Nat.zero_add]
    rw [e]
    refine R_iret dX8_ones_25 rfl (rfl) (⟨rfl, rfl⟩)
  · intro j hj ih
    refine R_iload_n (n := 5) dX8_ones_4 rfl rfl ?_
    refine R_bipush (v := nI 6) (n := 7) dX8_ones_5 rfl rfl ?_
    refine R_icmp_ge_f (n := 10) dX8_ones_7 rfl rfl (by rw [nI_leI (by omega) (by omega)]; omega) ?_
    refine R_iload_n (n := 11) dX8_ones_10 rfl rfl ?_
    refine R_iload_n (n := 12) dX8_ones_11 rfl rfl ?_
    refine R_iload_n (n := 13) dX8_ones_12 rfl rfl ?_
    refine R_ishr (n := 14) dX8_ones_13 rfl ?_
    refine R_iconst (v := nI 1) (n := 15) dX8_ones_14 rfl rfl ?_
    refine R_iand (n := 16) dX8_ones_15 rfl ?_
    rw [bit_at s hs j hj]
    refine R_iadd (n := 17) dX8_ones_16 rfl ?_
    refine R_istore_n (n := 18) dX8_ones_17 rfl (Nat.le_of_ble_eq_true rfl) (Nat.le_of_ble_eq_true rfl) ?_
    refine R_iinc (n := 21) dX8_ones_18 rfl rfl (nI_1 _) (Nat.le_of_ble_eq_true rfl) ?_
    refine R_goto (tgt := 4) dX8_ones_21 rfl ?_
    exact ih
theorem ct_X8_isBarge {n : Nat} (x : Int32) (hn : μ.1 125 1 = nI n) (h31 : n < 2 ^ 31) : Ct G l 2 yX8_isBarge cX8_isBarge 2 (some .boolean) [.ref (G.2.2.1 125), .int x] μ (fun r μ' => r = some (.int (bi (inR x n))) ∧ μ' = μ) := by
  refine Ct.of 0 (by decide +kernel) rfl (Nat.le_of_ble_eq_true rfl) ?_
  show V G l RX8 cX8_isBarge 2 _ false _ _ 0 [some (.ref _), some (.int _)] [] _
  refine R_iload_n (n := 1) dX8_isBarge_0 rfl rfl ?_
  refine R_i2l (n := 2) dX8_isBarge_1 rfl ?_
  refine R_lconst (n := 3) dX8_isBarge_2 rfl rfl ?_
  refine R_aload_n (n := 4) dX8_isBarge_3 rfl rfl ?_
  refine ge_X8_83 (n := 7) dX8_isBarge_4 rfl (hn) ?_
  refine R_iconst (v := nI 1) (n := 8) dX8_isBarge_7 rfl rfl ?_
  refine R_isub (n := 9) dX8_isBarge_8 rfl ?_
  refine R_i2l (n := 10) dX8_isBarge_9 rfl ?_
  refine iv_X8_56 (n := 13) (ct_X8_in x 0 (nI n - nI 1)) (by decide) dX8_isBarge_10 rfl (Nat.le_of_ble_eq_true rfl) (fun r μ' hq => ?_)
  obtain ⟨rfl, hq⟩ := hq
  have hq := hq.symm
  subst hq
  rw [inI_bar h31]
  refine R_iret dX8_isBarge_13 rfl (by first | rfl | exact nar_bi _) (⟨rfl, rfl⟩)
theorem ct_X8_isLock {n : Nat} (x : Int32) (hn : μ.1 125 0 = nI n) (h31 : n < 2 ^ 31) : Ct G l 2 yX8_isLock cX8_isLock 2 (some .boolean) [.ref (G.2.2.1 125), .int x] μ (fun r μ' => r = some (.int (bi (inR x n))) ∧ μ' = μ) := by
  refine Ct.of 0 (by decide +kernel) rfl (Nat.le_of_ble_eq_true rfl) ?_
  show V G l RX8 cX8_isLock 2 _ false _ _ 0 [some (.ref _), some (.int _)] [] _
  refine R_iload_n (n := 1) dX8_isLock_0 rfl rfl ?_
  refine R_i2l (n := 2) dX8_isLock_1 rfl ?_
  refine R_lconst (n := 3) dX8_isLock_2 rfl rfl ?_
  refine R_aload_n (n := 4) dX8_isLock_3 rfl rfl ?_
  refine ge_X8_50 (n := 7) dX8_isLock_4 rfl (hn) ?_
  refine R_iconst (v := nI 1) (n := 8) dX8_isLock_7 rfl rfl ?_
  refine R_isub (n := 9) dX8_isLock_8 rfl ?_
  refine R_i2l (n := 10) dX8_isLock_9 rfl ?_
  refine iv_X8_56 (n := 13) (ct_X8_in x 0 (nI n - nI 1)) (by decide) dX8_isLock_10 rfl (Nat.le_of_ble_eq_true rfl) (fun r μ' hq => ?_)
  obtain ⟨rfl, hq⟩ := hq
  have hq := hq.symm
  subst hq
  rw [inI_bar h31]
  refine R_iret dX8_isLock_13 rfl (by first | rfl | exact nar_bi _) (⟨rfl, rfl⟩)
theorem ct_X8_more (x y : Int32) : Ct G l 1 yX8_more cX8_more 2 (some .int) [.int x, .int y] μ (fun r μ' => r = some (.int (mx x y)) ∧ μ' = μ) := by
  refine Ct.of 0 (by decide +kernel) rfl (Nat.le_of_ble_eq_true rfl) ?_
  show V G l RX8 cX8_more 2 _ false _ _ 0 [some (.int _), some (.int _)] [] _
  refine R_iload_n (n := 1) dX8_more_0 rfl rfl ?_
  refine R_iload_n (n := 2) dX8_more_1 rfl rfl ?_
  refine R_icmp_le (n := 5) (tgt := 9) dX8_more_2 rfl rfl (fun h => ?_) (fun h => ?_)
  · refine R_iload_n (n := 10) dX8_more_9 rfl rfl ?_
    refine R_iret dX8_more_10 rfl (rfl) (⟨by rw [← mx_comm', if_neg (Int32.not_lt.mpr h)], rfl⟩)
  · refine R_iload_n (n := 6) dX8_more_5 rfl rfl ?_
    refine R_goto (tgt := 10) dX8_more_6 rfl ?_
    refine R_iret dX8_more_10 rfl (rfl) (⟨by rw [← mx_comm', if_pos (Int32.not_le.mp h)], rfl⟩)
theorem ct_X8_placeOf {v p : Nat} {row : Nat → Nat} (hlv : lv < 2) (hz6 : z ≤ 6) (hr : ∀ p, p < z → μ.1 128 (54 * lv + p) = nI (row p)) (hrow : ∀ p, p < z → row p < 6) (hv : v < 6) (hp : p < z) (hpv : row p = v) (hun : ∀ q, q < z → row q = v → q = p) : Ct G l 1 yX8_placeOf cX8_placeOf 6 (some .int) [.ref (G.2.2.1 125), .int (nI lv), .int (nI v), .int (nI z)] μ (fun r μ' => r = some (.int (nI p)) ∧ μ' = μ) := by
  refine Ct.of 2 (by decide +kernel) rfl (Nat.le_of_ble_eq_true rfl) ?_
  show V G l RX8 cX8_placeOf 6 _ false _ _ 0 [some (.ref _), some (.int _), some (.int _), some (.int _), none, none] [] _
  refine R_bipush (v := -9) (n := 2) dX8_placeOf_0 rfl rfl ?_
  refine R_istore (n := 4) dX8_placeOf_2 rfl (Nat.le_of_ble_eq_true rfl) (Nat.le_of_ble_eq_true rfl) ?_
  refine R_iconst (v := nI 0) (n := 5) dX8_placeOf_4 rfl rfl ?_
  refine R_istore (n := 7) dX8_placeOf_5 rfl (Nat.le_of_ble_eq_true rfl) (Nat.le_of_ble_eq_true rfl) ?_
  refine down (z := z) (P := fun k => V G l RX8 cX8_placeOf 6 1 false _ _ 7 [some (.ref _), some (.int (nI lv)), some (.int (nI v)), some (.int (nI z)), some (.int (if p < k then nI p else -9)), some (.int (nI k))] [] _) ?_ ?_ 0 (Nat.zero_le _)
  · refine R_iload (n := 9) dX8_placeOf_7 rfl rfl ?_
    refine R_iload_n (n := 10) dX8_placeOf_9 rfl rfl ?_
    refine R_icmp_ge_t (tgt := 44) dX8_placeOf_10 rfl (by rw [nI_leI (by omega) (by omega)]; omega) ?_
    rw [if_pos hp]
    refine R_iload (n := 46) dX8_placeOf_44 rfl rfl ?_
    refine R_iret dX8_placeOf_46 rfl (rfl) (⟨rfl, rfl⟩)
  · intro k hk ih
    have hq := hrow k hk
    refine R_iload (n := 9) dX8_placeOf_7 rfl rfl ?_
    refine R_iload_n (n := 10) dX8_placeOf_9 rfl rfl ?_
    refine R_icmp_ge_f (n := 13) dX8_placeOf_10 rfl rfl (by rw [nI_leI (by omega) (by omega)]; omega) ?_
    refine R_aload_n (n := 14) dX8_placeOf_13 rfl rfl ?_
    refine gf_X8_16 (n := 17) dX8_placeOf_14 rfl ?_
    refine R_bipush (v := nI 54) (n := 19) dX8_placeOf_17 rfl rfl ?_
    refine R_iload_n (n := 20) dX8_placeOf_19 rfl rfl ?_
    refine R_imul_n (n := 21) dX8_placeOf_20 rfl ?_
    refine R_iload (n := 23) dX8_placeOf_21 rfl rfl ?_
    refine R_iadd_n (n := 24) dX8_placeOf_23 rfl ?_
    refine R_iald_e (n := 25) sh_128 (rfl) (by omega) dX8_placeOf_24 rfl (hr _ (by omega)) ?_
    refine R_iload_n (n := 26) dX8_placeOf_25 rfl rfl ?_
    by_cases e : row k = v
    · have ek := hun k hk e
      rw [if_pos (by omega)] at ih
      refine R_icmp_ne_f (n := 29) dX8_placeOf_26 rfl rfl (by rw [e]) ?_
      refine R_iload (n := 31) dX8_placeOf_29 rfl rfl ?_
      refine R_goto (tgt := 36) dX8_placeOf_31 rfl ?_
      refine R_istore (n := 38) dX8_placeOf_36 rfl (Nat.le_of_ble_eq_true rfl) (Nat.le_of_ble_eq_true rfl) ?_
      refine R_iinc (n := 41) dX8_placeOf_38 rfl rfl (nI_1 _) (Nat.le_of_ble_eq_true rfl) ?_
      refine R_goto (tgt := 7) dX8_placeOf_41 rfl ?_
      rw [ek] at ih ⊢
      exact ih
    · rw [show (if p < k + 1 then nI p else -9) = if p < k then nI p else -9 by
        by_cases e2 : p < k
        · rw [if_pos e2, if_pos (by omega)]
        · rw [if_neg e2, if_neg (fun z => e (by rw [show k = p by omega]; exact hpv))]] at ih
      refine R_icmp_ne_t (tgt := 34) dX8_placeOf_26 rfl (by rw [nI_eq (by omega) (by omega)]; omega) ?_
      refine R_iload (n := 36) dX8_placeOf_34 rfl rfl ?_
      refine R_istore (n := 38) dX8_placeOf_36 rfl (Nat.le_of_ble_eq_true rfl) (Nat.le_of_ble_eq_true rfl) ?_
      refine R_iinc (n := 41) dX8_placeOf_38 rfl rfl (nI_1 _) (Nat.le_of_ble_eq_true rfl) ?_
      refine R_goto (tgt := 7) dX8_placeOf_41 rfl ?_
      exact ih
theorem ct_X8_figuresOf {row : Nat → Nat} (hlv : lv < 2) (hz6 : z ≤ 6) (hr : ∀ p, p < z → μ.1 128 (54 * lv + p) = nI (row p)) : Ct G l 1 yX8_figuresOf cX8_figuresOf 5 (some .int) [.ref (G.2.2.1 125), .int (nI lv), .int (nI z)] μ (fun r μ' => r = some (.int (fig row z)) ∧ μ' = μ) := by
  refine Ct.of 2 (by decide +kernel) rfl (Nat.le_of_ble_eq_true rfl) ?_
  show V G l RX8 cX8_figuresOf 5 _ false _ _ 0 [some (.ref _), some (.int _), some (.int _), none, none] [] _
  refine R_iconst (v := nI 0) (n := 1) dX8_figuresOf_0 rfl rfl ?_
  refine R_istore_n (n := 2) dX8_figuresOf_1 rfl (Nat.le_of_ble_eq_true rfl) (Nat.le_of_ble_eq_true rfl) ?_
  refine R_iconst (v := nI 0) (n := 3) dX8_figuresOf_2 rfl rfl ?_
  refine R_istore (n := 5) dX8_figuresOf_3 rfl (Nat.le_of_ble_eq_true rfl) (Nat.le_of_ble_eq_true rfl) ?_
  refine down (z := z) (P := fun k => V G l RX8 cX8_figuresOf 5 1 false _ _ 5 [some (.ref _), some (.int (nI lv)), some (.int (nI z)), some (.int (fig row k)), some (.int (nI k))] [] _) ?_ ?_ 0 (Nat.zero_le _)
  · refine R_iload (n := 7) dX8_figuresOf_5 rfl rfl ?_
    refine R_iload_n (n := 8) dX8_figuresOf_7 rfl rfl ?_
    refine R_icmp_ge_t (tgt := 37) dX8_figuresOf_8 rfl (by rw [nI_leI (by omega) (by omega)]; omega) ?_
    refine R_iload_n (n := 38) dX8_figuresOf_37 rfl rfl ?_
    refine R_iret dX8_figuresOf_38 rfl (rfl) (⟨rfl, rfl⟩)
  · intro k hk ih
    refine R_iload (n := 7) dX8_figuresOf_5 rfl rfl ?_
    refine R_iload_n (n := 8) dX8_figuresOf_7 rfl rfl ?_
    refine R_icmp_ge_f (n := 11) dX8_figuresOf_8 rfl rfl (by rw [nI_leI (by omega) (by omega)]; omega) ?_
    refine R_bipush (v := nI 10) (n := 13) dX8_figuresOf_11 rfl rfl ?_
    refine R_iload_n (n := 14) dX8_figuresOf_13 rfl rfl ?_
    refine R_imul (n := 15) dX8_figuresOf_14 rfl ?_
    refine R_aload_n (n := 16) dX8_figuresOf_15 rfl rfl ?_
    refine gf_X8_16 (n := 19) dX8_figuresOf_16 rfl ?_
    refine R_bipush (v := nI 54) (n := 21) dX8_figuresOf_19 rfl rfl ?_
    refine R_iload_n (n := 22) dX8_figuresOf_21 rfl rfl ?_
    refine R_imul_n (n := 23) dX8_figuresOf_22 rfl ?_
    refine R_iload (n := 25) dX8_figuresOf_23 rfl rfl ?_
    refine R_iadd_n (n := 26) dX8_figuresOf_25 rfl ?_
    refine R_iald_e (n := 27) sh_128 (rfl) (by omega) dX8_figuresOf_26 rfl (hr _ (by omega)) ?_
    refine R_iadd (n := 28) dX8_figuresOf_27 rfl ?_
    refine R_iconst (v := nI 1) (n := 29) dX8_figuresOf_28 rfl rfl ?_
    refine R_iadd (n := 30) dX8_figuresOf_29 rfl ?_
    refine R_istore_n (n := 31) dX8_figuresOf_30 rfl (Nat.le_of_ble_eq_true rfl) (Nat.le_of_ble_eq_true rfl) ?_
    refine R_iinc (n := 34) dX8_figuresOf_31 rfl rfl (nI_1 _) (Nat.le_of_ble_eq_true rfl) ?_
    refine R_goto (tgt := 5) dX8_figuresOf_34 rfl ?_
    exact ih
theorem ct_X8_greatest {row : Nat → Nat} {hrs : Nat → Int32} (hlv : lv < 2) (hz6 : z ≤ 6) (hr : ∀ p, p < z → μ.1 128 (54 * lv + p) = nI (row p)) (hrow : ∀ p, p < z → row p < 6) (hh : ∀ p, p < z → μ.1 128 (54 * lv + 6 + row p) = hrs (row p)) : Ct G l 2 yX8_greatest cX8_greatest 5 (some .int) [.ref (G.2.2.1 125), .int (nI lv), .int (nI z)] μ (fun r μ' => r = some (.int (gH row hrs z)) ∧ μ' = μ) := by
  refine Ct.of 2 (by decide +kernel) rfl (Nat.le_of_ble_eq_true rfl) ?_
  show V G l RX8 cX8_greatest 5 _ false _ _ 0 [some (.ref _), some (.int _), some (.int _), none, none] [] _
  refine R_iconst (v := nI 0) (n := 1) dX8_greatest_0 rfl rfl ?_
  refine R_istore_n (n := 2) dX8_greatest_1 rfl (Nat.le_of_ble_eq_true rfl) (Nat.le_of_ble_eq_true rfl) ?_
  refine R_iconst (v := nI 0) (n := 3) dX8_greatest_2 rfl rfl ?_
  refine R_istore (n := 5) dX8_greatest_3 rfl (Nat.le_of_ble_eq_true rfl) (Nat.le_of_ble_eq_true rfl) ?_
  refine down (z := z) (P := fun k => V G l RX8 cX8_greatest 5 2 false _ _ 5 [some (.ref _), some (.int (nI lv)), some (.int (nI z)), some (.int (gH row hrs k)), some (.int (nI k))] [] _) ?_ ?_ 0 (Nat.zero_le _)
  · refine R_iload (n := 7) dX8_greatest_5 rfl rfl ?_
    refine R_iload_n (n := 8) dX8_greatest_7 rfl rfl ?_
    refine R_icmp_ge_t (tgt := 47) dX8_greatest_8 rfl (by rw [nI_leI (by omega) (by omega)]; omega) ?_
    refine R_iload_n (n := 48) dX8_greatest_47 rfl rfl ?_
    refine R_iret dX8_greatest_48 rfl (rfl) (⟨rfl, rfl⟩)
  · intro k hk ih
    have hq := hrow k hk
    refine R_iload (n := 7) dX8_greatest_5 rfl rfl ?_
    refine R_iload_n (n := 8) dX8_greatest_7 rfl rfl ?_
    refine R_icmp_ge_f (n := 11) dX8_greatest_8 rfl rfl (by rw [nI_leI (by omega) (by omega)]; omega) ?_
    refine R_iload_n (n := 12) dX8_greatest_11 rfl rfl ?_
    refine R_aload_n (n := 13) dX8_greatest_12 rfl rfl ?_
    refine gf_X8_16 (n := 16) dX8_greatest_13 rfl ?_
    refine R_bipush (v := nI 54) (n := 18) dX8_greatest_16 rfl rfl ?_
    refine R_iload_n (n := 19) dX8_greatest_18 rfl rfl ?_
    refine R_imul_n (n := 20) dX8_greatest_19 rfl ?_
    refine R_bipush (v := nI 6) (n := 22) dX8_greatest_20 rfl rfl ?_
    refine R_iadd_n (n := 23) dX8_greatest_22 rfl ?_
    refine R_aload_n (n := 24) dX8_greatest_23 rfl rfl ?_
    refine gf_X8_16 (n := 27) dX8_greatest_24 rfl ?_
    refine R_bipush (v := nI 54) (n := 29) dX8_greatest_27 rfl rfl ?_
    refine R_iload_n (n := 30) dX8_greatest_29 rfl rfl ?_
    refine R_imul_n (n := 31) dX8_greatest_30 rfl ?_
    refine R_iload (n := 33) dX8_greatest_31 rfl rfl ?_
    refine R_iadd_n (n := 34) dX8_greatest_33 rfl ?_
    refine R_iald_e (n := 35) sh_128 (rfl) (by omega) dX8_greatest_34 rfl (hr _ (by omega)) ?_
    refine R_iadd_n (n := 36) dX8_greatest_35 rfl ?_
    refine R_iald_e (n := 37) sh_128 (rfl) (by omega) dX8_greatest_36 rfl (hh k hk) ?_
    refine iv_X8_104 (n := 40) (ct_X8_more _ _) (by decide) dX8_greatest_37 rfl (Nat.le_of_ble_eq_true rfl) (fun r μ' hq => ?_)
    obtain ⟨rfl, hq⟩ := hq
    have hq := hq.symm
    subst hq
    refine R_istore_n (n := 41) dX8_greatest_40 rfl (Nat.le_of_ble_eq_true rfl) (Nat.le_of_ble_eq_true rfl) ?_
    refine R_iinc (n := 44) dX8_greatest_41 rfl rfl (nI_1 _) (Nat.le_of_ble_eq_true rfl) ?_
    refine R_goto (tgt := 5) dX8_greatest_44 rfl ?_
    exact ih
theorem ct_X8_givenAt {k : Nat} (hk : k < 5) : Ct G l 1 yX8_givenAt cX8_givenAt 4 (some .int) [.ref (G.2.2.1 125), .int (nI k)] μ (fun r μ' => r = some (.int (sm (fun j => μ.1 128 (23 + 6 * k + j)) 6)) ∧ μ' = μ) := by
  refine Ct.of 2 (by decide +kernel) rfl (Nat.le_of_ble_eq_true rfl) ?_
  show V G l RX8 cX8_givenAt 4 _ false _ _ 0 [some (.ref _), some (.int _), none, none] [] _
  refine R_iconst (v := nI 0) (n := 1) dX8_givenAt_0 rfl rfl ?_
  refine R_istore_n (n := 2) dX8_givenAt_1 rfl (Nat.le_of_ble_eq_true rfl) (Nat.le_of_ble_eq_true rfl) ?_
  refine R_iconst (v := nI 0) (n := 3) dX8_givenAt_2 rfl rfl ?_
  refine R_istore_n (n := 4) dX8_givenAt_3 rfl (Nat.le_of_ble_eq_true rfl) (Nat.le_of_ble_eq_true rfl) ?_
  refine down (z := 6) (P := fun j => V G l RX8 cX8_givenAt 4 1 false _ _ 4 [some (.ref _), some (.int (nI k)), some (.int (sm (fun j => μ.1 128 (23 + 6 * k + j)) j)), some (.int (nI j))] [] _) ?_ ?_ 0 (Nat.zero_le _)
  · refine R_iload_n (n := 5) dX8_givenAt_4 rfl rfl ?_
    refine R_bipush (v := nI 6) (n := 7) dX8_givenAt_5 rfl rfl ?_
    refine R_icmp_ge_t (tgt := 33) dX8_givenAt_7 rfl (by rw [nI_leI (by omega) (by omega)]; omega) ?_
    refine R_iload_n (n := 34) dX8_givenAt_33 rfl rfl ?_
    refine R_iret dX8_givenAt_34 rfl (rfl) (⟨rfl, rfl⟩)
  · intro j hj ih
    refine R_iload_n (n := 5) dX8_givenAt_4 rfl rfl ?_
    refine R_bipush (v := nI 6) (n := 7) dX8_givenAt_5 rfl rfl ?_
    refine R_icmp_ge_f (n := 10) dX8_givenAt_7 rfl rfl (by rw [nI_leI (by omega) (by omega)]; omega) ?_
    refine R_iload_n (n := 11) dX8_givenAt_10 rfl rfl ?_
    refine R_aload_n (n := 12) dX8_givenAt_11 rfl rfl ?_
    refine gf_X8_16 (n := 15) dX8_givenAt_12 rfl ?_
    refine R_bipush (v := nI 23) (n := 17) dX8_givenAt_15 rfl rfl ?_
    refine R_bipush (v := nI 6) (n := 19) dX8_givenAt_17 rfl rfl ?_
    refine R_iload_n (n := 20) dX8_givenAt_19 rfl rfl ?_
    refine R_imul_n (n := 21) dX8_givenAt_20 rfl ?_
    refine R_iadd_n (n := 22) dX8_givenAt_21 rfl ?_
    refine R_iload_n (n := 23) dX8_givenAt_22 rfl rfl ?_
    refine R_iadd_n (n := 24) dX8_givenAt_23 rfl ?_
    refine R_iald (n := 25) sh_128 (rfl) (by omega) dX8_givenAt_24 rfl ?_
    refine R_iadd (n := 26) dX8_givenAt_25 rfl ?_
    refine R_istore_n (n := 27) dX8_givenAt_26 rfl (Nat.le_of_ble_eq_true rfl) (Nat.le_of_ble_eq_true rfl) ?_
    refine R_iinc (n := 30) dX8_givenAt_27 rfl rfl (nI_1 _) (Nat.le_of_ble_eq_true rfl) ?_
    refine R_goto (tgt := 4) dX8_givenAt_30 rfl ?_
    exact ih
theorem ct_X8_sumOf {from0 n : Nat} (h : from0 + n ≤ 108) : Ct G l 1 yX8_sumOf cX8_sumOf 5 (some .int) [.ref (G.2.2.1 125), .int (nI from0), .int (nI n)] μ (fun r μ' => r = some (.int (sm (fun j => μ.1 128 (from0 + j)) n)) ∧ μ' = μ) := by
  refine Ct.of 2 (by decide +kernel) rfl (Nat.le_of_ble_eq_true rfl) ?_
  show V G l RX8 cX8_sumOf 5 _ false _ _ 0 [some (.ref _), some (.int _), some (.int _), none, none] [] _
  refine R_iconst (v := nI 0) (n := 1) dX8_sumOf_0 rfl rfl ?_
  refine R_istore_n (n := 2) dX8_sumOf_1 rfl (Nat.le_of_ble_eq_true rfl) (Nat.le_of_ble_eq_true rfl) ?_
  refine R_iconst (v := nI 0) (n := 3) dX8_sumOf_2 rfl rfl ?_
  refine R_istore (n := 5) dX8_sumOf_3 rfl (Nat.le_of_ble_eq_true rfl) (Nat.le_of_ble_eq_true rfl) ?_
  refine down (z := n) (P := fun k => V G l RX8 cX8_sumOf 5 1 false _ _ 5 [some (.ref _), some (.int (nI from0)), some (.int (nI n)), some (.int (sm (fun j => μ.1 128 (from0 + j)) k)), some (.int (nI k))] [] _) ?_ ?_ 0 (Nat.zero_le _)
  · refine R_iload (n := 7) dX8_sumOf_5 rfl rfl ?_
    refine R_iload_n (n := 8) dX8_sumOf_7 rfl rfl ?_
    refine R_icmp_ge_t (tgt := 29) dX8_sumOf_8 rfl (by rw [nI_leI (by omega) (by omega)]; omega) ?_
    refine R_iload_n (n := 30) dX8_sumOf_29 rfl rfl ?_
    refine R_iret dX8_sumOf_30 rfl (rfl) (⟨rfl, rfl⟩)
  · intro k hk ih
    refine R_iload (n := 7) dX8_sumOf_5 rfl rfl ?_
    refine R_iload_n (n := 8) dX8_sumOf_7 rfl rfl ?_
    refine R_icmp_ge_f (n := 11) dX8_sumOf_8 rfl rfl (by rw [nI_leI (by omega) (by omega)]; omega) ?_
    refine R_iload_n (n := 12) dX8_sumOf_11 rfl rfl ?_
    refine R_aload_n (n := 13) dX8_sumOf_12 rfl rfl ?_
    refine gf_X8_16 (n := 16) dX8_sumOf_13 rfl ?_
    refine R_iload_n (n := 17) dX8_sumOf_16 rfl rfl ?_
    refine R_iload (n := 19) dX8_sumOf_17 rfl rfl ?_
    refine R_iadd_n (n := 20) dX8_sumOf_19 rfl ?_
    refine R_iald (n := 21) sh_128 (rfl) (by omega) dX8_sumOf_20 rfl ?_
    refine R_iadd (n := 22) dX8_sumOf_21 rfl ?_
    refine R_istore_n (n := 23) dX8_sumOf_22 rfl (Nat.le_of_ble_eq_true rfl) (Nat.le_of_ble_eq_true rfl) ?_
    refine R_iinc (n := 26) dX8_sumOf_23 rfl rfl (nI_1 _) (Nat.le_of_ble_eq_true rfl) ?_
    refine R_goto (tgt := 5) dX8_sumOf_26 rfl ?_
    exact ih
theorem ct_X8_isChanged {k a b : Nat} (hlv : lv < 2) (hM : MCf μ C) (hS : MSt μ 128 (54 * lv) z C S) (hn : C.1 ≤ 6) (hL : C.2.1 ≤ 5) (hk : k < C.2.1) (hlaw : sLaw S k < 4) (ha : a < C.1) (hb : b < C.1) : Ct G l 1 yX8_isChanged cX8_isChanged 6 (some .boolean) [.ref (G.2.2.1 125), .int (nI lv), .int (nI k), .int (nI a), .int (nI b)] μ (fun r μ' => r = some (.int (bi (swF C.2.2.2 (sLaw S k) (fun j => sGvn S (6 * k + j)) a b))) ∧ μ' = μ) := by
  have hg : ∀ j, j < 6 → μ.1 128 (54 * lv + 23 + 6 * k + j) = sGvn S (6 * k + j) := fun j hj => by
    have := hS.2.2.2.2.1 (6 * k + j) (by omega)
    rwa [← Nat.add_assoc] at this
  refine Ct.of 1 (by decide +kernel) rfl (Nat.le_of_ble_eq_true rfl) ?_
  show V G l RX8 cX8_isChanged 6 _ false _ _ 0 [some (.ref _), some (.int _), some (.int _), some (.int _), some (.int _), none] [] _
  refine R_bipush (v := nI 54) (n := 2) dX8_isChanged_0 rfl rfl ?_
  refine R_iload_n (n := 3) dX8_isChanged_2 rfl rfl ?_
  refine R_imul_n (n := 4) dX8_isChanged_3 rfl ?_
  refine R_istore (n := 6) dX8_isChanged_4 rfl (Nat.le_of_ble_eq_true rfl) (Nat.le_of_ble_eq_true rfl) ?_
  refine R_aload_n (n := 7) dX8_isChanged_6 rfl rfl ?_
  refine gf_X8_16 (n := 10) dX8_isChanged_7 rfl ?_
  refine R_iload (n := 12) dX8_isChanged_10 rfl rfl ?_
  refine R_bipush (v := nI 12) (n := 14) dX8_isChanged_12 rfl rfl ?_
  refine R_iadd_n (n := 15) dX8_isChanged_14 rfl ?_
  refine R_iload_n (n := 16) dX8_isChanged_15 rfl rfl ?_
  refine R_iadd_n (n := 17) dX8_isChanged_16 rfl ?_
  refine R_iald_e (n := 18) sh_128 (rfl) (by omega) dX8_isChanged_17 rfl (hS.2.2.1 _ hk) ?_
  generalize sLaw S k = law at *
  match law, hlaw with
  | 0, _ =>
    refine R_tableIn (off := 26) (tgt := 44) dX8_isChanged_18 (by decide) (by decide) (by decide) rfl ?_
    refine R_iconst (v := nI 0) (n := 45) dX8_isChanged_44 rfl rfl ?_
    refine R_iret dX8_isChanged_45 rfl (by first | rfl | exact nar_bi _) (⟨rfl, rfl⟩)
  | 1, _ =>
    refine R_tableIn (off := 28) (tgt := 46) dX8_isChanged_18 (by decide) (by decide) (by decide) rfl ?_
    refine R_iconst (v := nI 1) (n := 47) dX8_isChanged_46 rfl rfl ?_
    refine R_iret dX8_isChanged_47 rfl (by first | rfl | exact nar_bi _) (⟨rfl, rfl⟩)
  | 2, _ =>
    refine R_tableIn (off := 30) (tgt := 48) dX8_isChanged_18 (by decide) (by decide) (by decide) rfl ?_
    refine R_aload_n (n := 49) dX8_isChanged_48 rfl rfl ?_
    refine gf_X8_13 (n := 52) dX8_isChanged_49 rfl ?_
    refine R_iload (n := 54) dX8_isChanged_52 rfl rfl ?_
    refine R_iald_e (n := 55) sh_127 (rfl) (by omega) dX8_isChanged_54 rfl (hM.2.2.2 _ (by omega)) ?_
    refine R_aload_n (n := 56) dX8_isChanged_55 rfl rfl ?_
    refine gf_X8_13 (n := 59) dX8_isChanged_56 rfl ?_
    refine R_iload_n (n := 60) dX8_isChanged_59 rfl rfl ?_
    refine R_iald_e (n := 61) sh_127 (rfl) (by omega) dX8_isChanged_60 rfl (hM.2.2.2 _ (by omega)) ?_
    refine R_icmp_ge (n := 64) (tgt := 68) dX8_isChanged_61 rfl rfl (fun h => ?_) (fun h => ?_)
    · refine R_iconst (v := nI 0) (n := 69) dX8_isChanged_68 rfl rfl ?_
      refine R_iret dX8_isChanged_69 rfl (by first | rfl | exact nar_bi _) (⟨by rw [swF, decide_eq_false (Int32.not_lt.mpr h)]; rfl, rfl⟩)
    · refine R_iconst (v := nI 1) (n := 65) dX8_isChanged_64 rfl rfl ?_
      refine R_goto (tgt := 69) dX8_isChanged_65 rfl ?_
      refine R_iret dX8_isChanged_69 rfl (by first | rfl | exact nar_bi _) (⟨by rw [swF, decide_eq_true (Int32.not_le.mp h)]; rfl, rfl⟩)
  | 3, _ =>
    refine R_tableOut (tgt := 70) dX8_isChanged_18 (by decide) rfl ?_
    refine R_aload_n (n := 71) dX8_isChanged_70 rfl rfl ?_
    refine gf_X8_16 (n := 74) dX8_isChanged_71 rfl ?_
    refine R_iload (n := 76) dX8_isChanged_74 rfl rfl ?_
    refine R_bipush (v := nI 23) (n := 78) dX8_isChanged_76 rfl rfl ?_
    refine R_iadd_n (n := 79) dX8_isChanged_78 rfl ?_
    refine R_bipush (v := nI 6) (n := 81) dX8_isChanged_79 rfl rfl ?_
    refine R_iload_n (n := 82) dX8_isChanged_81 rfl rfl ?_
    refine R_imul_n (n := 83) dX8_isChanged_82 rfl ?_
    refine R_iadd_n (n := 84) dX8_isChanged_83 rfl ?_
    refine R_iload (n := 86) dX8_isChanged_84 rfl rfl ?_
    refine R_iadd_n (n := 87) dX8_isChanged_86 rfl ?_
    refine R_iald_e (n := 88) sh_128 (rfl) (by omega) dX8_isChanged_87 rfl (hg _ (by omega)) ?_
    refine R_aload_n (n := 89) dX8_isChanged_88 rfl rfl ?_
    refine gf_X8_16 (n := 92) dX8_isChanged_89 rfl ?_
    refine R_iload (n := 94) dX8_isChanged_92 rfl rfl ?_
    refine R_bipush (v := nI 23) (n := 96) dX8_isChanged_94 rfl rfl ?_
    refine R_iadd_n (n := 97) dX8_isChanged_96 rfl ?_
    refine R_bipush (v := nI 6) (n := 99) dX8_isChanged_97 rfl rfl ?_
    refine R_iload_n (n := 100) dX8_isChanged_99 rfl rfl ?_
    refine R_imul_n (n := 101) dX8_isChanged_100 rfl ?_
    refine R_iadd_n (n := 102) dX8_isChanged_101 rfl ?_
    refine R_iload_n (n := 103) dX8_isChanged_102 rfl rfl ?_
    refine R_iadd_n (n := 104) dX8_isChanged_103 rfl ?_
    refine R_iald_e (n := 105) sh_128 (rfl) (by omega) dX8_isChanged_104 rfl (hg _ (by omega)) ?_
    refine R_icmp_le (n := 108) (tgt := 112) dX8_isChanged_105 rfl rfl (fun h => ?_) (fun h => ?_)
    · refine R_iconst (v := nI 0) (n := 113) dX8_isChanged_112 rfl rfl ?_
      refine R_iret dX8_isChanged_113 rfl (by first | rfl | exact nar_bi _) (⟨by rw [swF, decide_eq_false (Int32.not_lt.mpr h)]; rfl, rfl⟩)
    · refine R_iconst (v := nI 1) (n := 109) dX8_isChanged_108 rfl rfl ?_
      refine R_goto (tgt := 113) dX8_isChanged_109 rfl ?_
      refine R_iret dX8_isChanged_113 rfl (by first | rfl | exact nar_bi _) (⟨by rw [swF, decide_eq_true (Int32.not_le.mp h)]; rfl, rfl⟩)
end M1

