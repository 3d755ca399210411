/-! THE PURE PICTURE: chambers, a lock gone through -/
abbrev ST : Type := (Nat → Nat) × (Nat → Int32) × (Nat → Nat) × (Nat → Nat) × (Nat → Int32) × Nat
def sRow (S : ST) : Nat → Nat := S.1
def sHrs (S : ST) : Nat → Int32 := S.2.1
def sTea (S : ST) : Nat → Nat := S.2.2.1
def sLaw (S : ST) : Nat → Nat := S.2.2.2.1
def sGvn (S : ST) : Nat → Int32 := S.2.2.2.2.1
def sPsd (S : ST) : Nat := S.2.2.2.2.2
def mkS (row : Nat → Nat) (hrs : Nat → Int32) (tea law : Nat → Nat) (gvn : Nat → Int32) (psd : Nat) : ST := (row, hrs, tea, law, gvn, psd)
def bt (k : Nat) : Int32 := nI 1 <<< (nI k &&& 31)
def twoF (len : Nat → Int32) (row : Nat → Nat) (z p : Nat) : Bool := decide (p + 1 < z) && (decide (len (row p) = nI 1) && decide (len (row (p + 1)) = nI 1))
def swF (wt : Nat → Int32) (law : Nat) (g : Nat → Int32) (a b : Nat) : Bool := match law with
  | 1 => true
  | 2 => decide (wt b < wt a)
  | 3 => decide (g a < g b)
  | _ => false
theorem swF_congr {wt : Nat → Int32} {law : Nat} {g g' : Nat → Int32} {a b : Nat} (h1 : g a = g' a) (h2 : g b = g' b) : swF wt law g a b = swF wt law g' a b := by
  unfold swF
  split
  · rfl
  · rfl
  · rw [h1, h2]
  · rfl
def swp (row : Nat → Nat) (p : Nat) : Nat → Nat := fun i => if i = p + 1 then row p else if i = p then row (p + 1) else row i
def goL (len wt : Nat → Int32) (law : Nat) (g : Nat → Int32) (z : Nat) : Nat → Nat → Int32 → (Nat → Nat) → (Nat → Int32) → (Nat → Int32) → (Nat → Nat) × (Nat → Int32) × (Nat → Int32)
  | 0, _, _, row, hrs, w => (row, hrs, w)
  | f + 1, p, hour, row, hrs, w =>
    if p < z then
      if twoF len row z p = true then
        goL len wt law g z f (p + 2) (nI 1 + mx hour (mx (hrs (row p)) (hrs (row (p + 1)))))
          (if swF wt law g (row p) (row (p + 1)) = true then swp row p else row)
          (upd (upd hrs (row p) (nI 1 + mx hour (mx (hrs (row p)) (hrs (row (p + 1)))))) (row (p + 1)) (nI 1 + mx hour (mx (hrs (row p)) (hrs (row (p + 1))))))
          (upd (upd w (row p) (w (row p) ||| bt (row (p + 1)))) (row (p + 1)) (upd w (row p) (w (row p) ||| bt (row (p + 1))) (row (p + 1)) ||| bt (row p)))
      else
        goL len wt law g z f (p + 1) (nI 1 + mx hour (mx (hrs (row p)) (hrs (row p)))) row (upd (upd hrs (row p) (nI 1 + mx hour (mx (hrs (row p)) (hrs (row p))))) (row p) (nI 1 + mx hour (mx (hrs (row p)) (hrs (row p))))) w
    else (row, hrs, w)
theorem goL_end {len wt : Nat → Int32} {law : Nat} {g : Nat → Int32} {z f p : Nat} {hour : Int32} {row : Nat → Nat} {hrs w : Nat → Int32} (h : ¬ p < z) : goL len wt law g z f p hour row hrs w = (row, hrs, w) := by
  cases f with
  | zero => rfl
  | succ f => rw [goL, if_neg h]
theorem goL_two {len wt : Nat → Int32} {law : Nat} {g : Nat → Int32} {z f p : Nat} {hour : Int32} {row : Nat → Nat} {hrs w : Nat → Int32} (h : p < z) (ht : twoF len row z p = true) : goL len wt law g z (f + 1) p hour row hrs w = goL len wt law g z f (p + 2) (nI 1 + mx hour (mx (hrs (row p)) (hrs (row (p + 1)))))
          (if swF wt law g (row p) (row (p + 1)) = true then swp row p else row)
          (upd (upd hrs (row p) (nI 1 + mx hour (mx (hrs (row p)) (hrs (row (p + 1)))))) (row (p + 1)) (nI 1 + mx hour (mx (hrs (row p)) (hrs (row (p + 1))))))
          (upd (upd w (row p) (w (row p) ||| bt (row (p + 1)))) (row (p + 1)) (upd w (row p) (w (row p) ||| bt (row (p + 1))) (row (p + 1)) ||| bt (row p))) := by
  rw [goL, if_pos h, if_pos ht]
theorem goL_one {len wt : Nat → Int32} {law : Nat} {g : Nat → Int32} {z f p : Nat} {hour : Int32} {row : Nat → Nat} {hrs w : Nat → Int32} (h : p < z) (ht : twoF len row z p = false) : goL len wt law g z (f + 1) p hour row hrs w = goL len wt law g z f (p + 1) (nI 1 + mx hour (mx (hrs (row p)) (hrs (row p)))) row (upd (upd hrs (row p) (nI 1 + mx hour (mx (hrs (row p)) (hrs (row p))))) (row p) (nI 1 + mx hour (mx (hrs (row p)) (hrs (row p))))) w := by
  rw [goL, if_pos h, if_neg (by rw [ht]; decide)]
/-- barges, locks, how long, how heavy -/
abbrev CF : Type := Nat × Nat × (Nat → Int32) × (Nat → Int32)
def goS (C : CF) (z : Nat) (S : ST) : (Nat → Nat) × (Nat → Int32) × (Nat → Int32) := goL C.2.2.1 C.2.2.2 (sLaw S (sPsd S)) (fun j => sGvn S (6 * sPsd S + j)) z z 0 (nI 0) (sRow S) (sHrs S) (fun _ => nI 0)
def pass1 (C : CF) (z : Nat) (S : ST) : ST := mkS (goS C z S).1 (goS C z S).2.1 (sTea S) (sLaw S) (sGvn S) (sPsd S + 1)
def CCf (μ : Mem) (C : CF) : Prop := μ.1 3 4 = nI C.2.1 ∧ μ.1 3 5 = nI C.1 ∧ (∀ j, j < C.1 → μ.1 4 j = C.2.2.1 j) ∧ (∀ j, j < C.1 → μ.1 5 j = C.2.2.2 j)
def CSt (μ : Mem) (b z : Nat) (C : CF) (S : ST) : Prop := (∀ p, p < z → μ.1 (b + 1) p = nI (sRow S p)) ∧ (∀ j, j < 6 → μ.1 (b + 2) j = sHrs S j) ∧ (∀ j, j < C.1 → μ.1 (b + 3) j = nI (sTea S j)) ∧ (∀ k, k < C.2.1 → μ.1 (b + 4) k = nI (sLaw S k)) ∧ (∀ e, e < 30 → μ.1 (b + 5) e = sGvn S e) ∧ μ.1 b 5 = nI z ∧ μ.1 b 6 = nI (sPsd S)
/-- what a lock gone through needs of a State -/
def Ok (C : CF) (z : Nat) (S : ST) : Prop := C.1 ≤ 6 ∧ C.2.1 ≤ 5 ∧ z ≤ C.1 ∧ (∀ p, p < z → sRow S p < C.1) ∧ (∀ k, k < C.2.1 → sLaw S k < 4) ∧ sPsd S ≤ C.2.1
abbrev Pst (b : Nat) : Nat → Nat → Prop := fun i j => (i = b ∧ j = 6) ∨ i = b + 1 ∨ i = b + 2
def inR (x : Int32) (n : Nat) : Bool := decide (¬ x < 0) && decide (¬ nI n ≤ x)
theorem inR_nI {k n : Nat} (hn : n < 2 ^ 31) (hk : k < n) : inR (nI k) n = true := by
  unfold inR
  rw [decide_eq_true (nI_pos (by omega)), decide_eq_true (nI_ge hk hn)]
  rfl
theorem inR_nI' {k n : Nat} (hn : n < 2 ^ 31) (hk : k < 2 ^ 31) (h : n ≤ k) : inR (nI k) n = false := by
  unfold inR
  rw [decide_eq_false (p := ¬ nI n ≤ nI k) (fun z => z (nI_le h hk)), Bool.and_false]
theorem inR_of {x : Int32} {n : Nat} (hn : n < 2 ^ 31) (h : inR x n = true) : ∃ k, k < n ∧ x = nI k := by
  unfold inR at h
  rw [Bool.and_eq_true] at h
  have h1 := of_decide_eq_true h.1
  have h2 := of_decide_eq_true h.2
  obtain ⟨k, hk, rfl⟩ := nI_of h1
  rw [nI_leI hn hk] at h2
  exact ⟨k, by omega, rfl⟩
section CN
variable {G : Gm} {l : Launch} {μ : Mem}
theorem ct_X1_hasBarge {n : Nat} (x : Int32) (hn : μ.1 3 5 = nI n) : Ct G l 1 yX1_hasBarge cX1_hasBarge 2 (some .boolean) [.ref (G.2.2.1 3), .int x] μ (fun r μ' => r = some (.int (bi (inR x n))) ∧ μ' = μ) := by
  refine Ct.of 0 (by decide +kernel) rfl (Nat.le_of_ble_eq_true rfl) ?_
  show V G l RX1 cX1_hasBarge 2 _ false _ _ 0 [some (.ref _), some (.int _)] [] _
  refine R_iload_n (n := 1) dX1_hasBarge_0 rfl rfl ?_
  refine R_if_lt (n := 4) (tgt := 16) dX1_hasBarge_1 rfl rfl (fun h => ?_) (fun h => ?_)
  · refine R_iconst (v := nI 0) (n := 17) dX1_hasBarge_16 rfl rfl ?_
    refine R_iret dX1_hasBarge_17 rfl (by first | rfl | exact nar_bi _) (⟨by rw [inR, decide_eq_false (fun z => z h)]; rfl, rfl⟩)
  · refine R_iload_n (n := 5) dX1_hasBarge_4 rfl rfl ?_
    refine R_aload_n (n := 6) dX1_hasBarge_5 rfl rfl ?_
    refine ge_X1_32 (n := 9) dX1_hasBarge_6 rfl (hn) ?_
    refine R_icmp_ge (n := 12) (tgt := 16) dX1_hasBarge_9 rfl rfl (fun h2 => ?_) (fun h2 => ?_)
    · refine R_iconst (v := nI 0) (n := 17) dX1_hasBarge_16 rfl rfl ?_
      refine R_iret dX1_hasBarge_17 rfl (by first | rfl | exact nar_bi _) (⟨by rw [inR, decide_eq_false (p := ¬ nI n ≤ x) (fun z => z h2), Bool.and_false]; rfl, rfl⟩)
    · refine R_iconst (v := nI 1) (n := 13) dX1_hasBarge_12 rfl rfl ?_
      refine R_goto (tgt := 17) dX1_hasBarge_13 rfl ?_
      refine R_iret dX1_hasBarge_17 rfl (by first | rfl | exact nar_bi _) (⟨by rw [inR, decide_eq_true h, decide_eq_true h2]; rfl, rfl⟩)
theorem ct_X1_hasLock {n : Nat} (x : Int32) (hn : μ.1 3 4 = nI n) : Ct G l 1 yX1_hasLock cX1_hasLock 2 (some .boolean) [.ref (G.2.2.1 3), .int x] μ (fun r μ' => r = some (.int (bi (inR x n))) ∧ μ' = μ) := by
  refine Ct.of 0 (by decide +kernel) rfl (Nat.le_of_ble_eq_true rfl) ?_
  show V G l RX1 cX1_hasLock 2 _ false _ _ 0 [some (.ref _), some (.int _)] [] _
  refine R_iload_n (n := 1) dX1_hasLock_0 rfl rfl ?_
  refine R_if_lt (n := 4) (tgt := 16) dX1_hasLock_1 rfl rfl (fun h => ?_) (fun h => ?_)
  · refine R_iconst (v := nI 0) (n := 17) dX1_hasLock_16 rfl rfl ?_
    refine R_iret dX1_hasLock_17 rfl (by first | rfl | exact nar_bi _) (⟨by rw [inR, decide_eq_false (fun z => z h)]; rfl, rfl⟩)
  · refine R_iload_n (n := 5) dX1_hasLock_4 rfl rfl ?_
    refine R_aload_n (n := 6) dX1_hasLock_5 rfl rfl ?_
    refine ge_X1_28 (n := 9) dX1_hasLock_6 rfl (hn) ?_
    refine R_icmp_ge (n := 12) (tgt := 16) dX1_hasLock_9 rfl rfl (fun h2 => ?_) (fun h2 => ?_)
    · refine R_iconst (v := nI 0) (n := 17) dX1_hasLock_16 rfl rfl ?_
      refine R_iret dX1_hasLock_17 rfl (by first | rfl | exact nar_bi _) (⟨by rw [inR, decide_eq_false (p := ¬ nI n ≤ x) (fun z => z h2), Bool.and_false]; rfl, rfl⟩)
    · refine R_iconst (v := nI 1) (n := 13) dX1_hasLock_12 rfl rfl ?_
      refine R_goto (tgt := 17) dX1_hasLock_13 rfl ?_
      refine R_iret dX1_hasLock_17 rfl (by first | rfl | exact nar_bi _) (⟨by rw [inR, decide_eq_true h, decide_eq_true h2]; rfl, rfl⟩)
theorem ct_X1_isPassed {k q : Nat} (hk : k < 2 ^ 31) (hq : q < 2 ^ 31) (hp : μ.1 6 6 = nI q) : Ct G l 1 yX1_isPassed cX1_isPassed 2 (some .boolean) [.ref (G.2.2.1 3), .int (nI k)] μ (fun r μ' => r = some (.int (bi (decide (k < q)))) ∧ μ' = μ) := by
  refine Ct.of 0 (by decide +kernel) rfl (Nat.le_of_ble_eq_true rfl) ?_
  show V G l RX1 cX1_isPassed 2 _ false _ _ 0 [some (.ref _), some (.int _)] [] _
  refine R_iload_n (n := 1) dX1_isPassed_0 rfl rfl ?_
  refine R_aload_n (n := 2) dX1_isPassed_1 rfl rfl ?_
  refine gf_X1_21 (n := 5) dX1_isPassed_2 rfl ?_
  refine ge_X1_62 (n := 8) stB_6 dX1_isPassed_5 rfl (hp) ?_
  refine R_icmp_ge (n := 11) (tgt := 15) dX1_isPassed_8 rfl rfl (fun h => ?_) (fun h => ?_)
  · rw [nI_leI (by omega) (by omega)] at h
    refine R_iconst (v := nI 0) (n := 16) dX1_isPassed_15 rfl rfl ?_
    refine R_iret dX1_isPassed_16 rfl (by first | rfl | exact nar_bi _) (⟨by rw [decide_eq_false (by omega)]; rfl, rfl⟩)
  · rw [nI_leI (by omega) (by omega)] at h
    refine R_iconst (v := nI 1) (n := 12) dX1_isPassed_11 rfl rfl ?_
    refine R_goto (tgt := 16) dX1_isPassed_12 rfl ?_
    refine R_iret dX1_isPassed_16 rfl (by first | rfl | exact nar_bi _) (⟨by rw [decide_eq_true (by omega)]; rfl, rfl⟩)
theorem ct_X1_locksLeft {k q : Nat} (hk : μ.1 3 4 = nI k) (hp : μ.1 6 6 = nI q) (hqk : q ≤ k) : Ct G l 1 yX1_locksLeft cX1_locksLeft 1 (some .int) [.ref (G.2.2.1 3)] μ (fun r μ' => r = some (.int (nI (k - q))) ∧ μ' = μ) := by
  refine Ct.of 0 (by decide +kernel) rfl (Nat.le_of_ble_eq_true rfl) ?_
  show V G l RX1 cX1_locksLeft 1 _ false _ _ 0 [some (.ref _)] [] _
  refine R_aload_n (n := 1) dX1_locksLeft_0 rfl rfl ?_
  refine ge_X1_28 (n := 4) dX1_locksLeft_1 rfl (hk) ?_
  refine R_aload_n (n := 5) dX1_locksLeft_4 rfl rfl ?_
  refine gf_X1_21 (n := 8) dX1_locksLeft_5 rfl ?_
  refine ge_X1_62 (n := 11) stB_6 dX1_locksLeft_8 rfl (hp) ?_
  refine R_isub_n (n := 12) dX1_locksLeft_11 (hqk) rfl ?_
  refine R_iret dX1_locksLeft_12 rfl (rfl) (⟨rfl, rfl⟩)
theorem ct_X1_newTrial : Ct G l 2 yX1_newTrial cX1_newTrial 1 (some (.object "EelLocks$State")) [.ref (G.2.2.1 3)] μ (fun r μ' => r = some (.ref (G.2.2.1 12)) ∧ Cpy μ μ' 6 12 ∧ Sme (fun i _ => 12 ≤ i ∧ i ≤ 17) μ μ') := by
  refine Ct.of 0 (by decide +kernel) rfl (Nat.le_of_ble_eq_true rfl) ?_
  show V G l RX1 cX1_newTrial 1 _ false _ _ 0 [some (.ref _)] [] _
  refine R_aload_n (n := 1) dX1_newTrial_0 rfl rfl ?_
  refine gf_X1_25 (n := 4) dX1_newTrial_1 rfl ?_
  refine R_aload_n (n := 5) dX1_newTrial_4 rfl rfl ?_
  refine gf_X1_21 (n := 8) dX1_newTrial_5 rfl ?_
  refine iv_X1_65 (n := 11) (ct_X5_copyFrom stB_12 stB_6 (by omega)) stB_12 (by decide) dX1_newTrial_8 rfl (Nat.le_of_ble_eq_true rfl) (fun r μ' hq => ?_)
  obtain ⟨rfl, h1, h2⟩ := hq
  refine R_aload_n (n := 12) dX1_newTrial_11 rfl rfl ?_
  refine gf_X1_25 (n := 15) dX1_newTrial_12 rfl ?_
  refine R_aret dX1_newTrial_15 rfl (⟨rfl, h1, h2⟩)
section CN2
variable {b z : Nat} {C : CF} {S : ST}
theorem ct_X1_holdsTwo {n p : Nat} {row : Nat → Nat} {len : Nat → Int32} (hs : StB b) (hn : n ≤ 6) (hzn : z ≤ n) (hz : μ.1 b 5 = nI z) (hr : ∀ p, p < z → μ.1 (b + 1) p = nI (row p)) (hrow : ∀ p, p < z → row p < n) (hl : ∀ j, j < n → μ.1 4 j = len j) (hp : p < z) : Ct G l 1 yX1_holdsTwo cX1_holdsTwo 3 (some .boolean) [.ref (G.2.2.1 3), .ref (G.2.2.1 b), .int (nI p)] μ (fun r μ' => r = some (.int (bi (twoF len row z p))) ∧ μ' = μ) := by
  have hq := hrow p hp
  refine Ct.of 0 (by decide +kernel) rfl (Nat.le_of_ble_eq_true rfl) ?_
  show V G l RX1 cX1_holdsTwo 3 _ false _ _ 0 [some (.ref _), some (.ref _), some (.int _)] [] _
  refine R_iload_n (n := 1) dX1_holdsTwo_0 rfl rfl ?_
  refine R_iconst (v := nI 1) (n := 2) dX1_holdsTwo_1 rfl rfl ?_
  refine R_iadd_n (n := 3) dX1_holdsTwo_2 rfl ?_
  refine R_aload_n (n := 4) dX1_holdsTwo_3 rfl rfl ?_
  refine ge_X1_59 (n := 7) hs dX1_holdsTwo_4 rfl (hz) ?_
  refine R_icmp_ge (n := 10) (tgt := 46) dX1_holdsTwo_7 rfl rfl (fun h => ?_) (fun h => ?_)
  · rw [nI_leI (by omega) (by omega)] at h
    refine R_iconst (v := nI 0) (n := 47) dX1_holdsTwo_46 rfl rfl ?_
    refine R_iret dX1_holdsTwo_47 rfl (by first | rfl | exact nar_bi _) (⟨by rw [twoF, decide_eq_false (by omega)]; rfl, rfl⟩)
  · rw [nI_leI (by omega) (by omega)] at h
    have hq2 := hrow (p + 1) (by omega)
    refine R_aload_n (n := 11) dX1_holdsTwo_10 rfl rfl ?_
    refine gf_X1_9 (n := 14) dX1_holdsTwo_11 rfl ?_
    refine R_aload_n (n := 15) dX1_holdsTwo_14 rfl rfl ?_
    refine gf_X1_56 (n := 18) hs dX1_holdsTwo_15 rfl ?_
    refine R_iload_n (n := 19) dX1_holdsTwo_18 rfl rfl ?_
    refine R_iald_e (n := 20) hs.2.1 (rfl) (by omega) dX1_holdsTwo_19 rfl (hr _ (by omega)) ?_
    refine R_iald_e (n := 21) sh_4 (rfl) (by omega) dX1_holdsTwo_20 rfl (hl _ (by omega)) ?_
    refine R_iconst (v := nI 1) (n := 22) dX1_holdsTwo_21 rfl rfl ?_
    refine R_icmp_ne (n := 25) (tgt := 46) dX1_holdsTwo_22 rfl rfl (fun h2 => ?_) (fun h2 => ?_)
    · refine R_iconst (v := nI 0) (n := 47) dX1_holdsTwo_46 rfl rfl ?_
      refine R_iret dX1_holdsTwo_47 rfl (by first | rfl | exact nar_bi _) (⟨by rw [twoF, decide_eq_false (p := len (row p) = nI 1) h2, Bool.false_and, Bool.and_false]; rfl, rfl⟩)
    · refine R_aload_n (n := 26) dX1_holdsTwo_25 rfl rfl ?_
      refine gf_X1_9 (n := 29) dX1_holdsTwo_26 rfl ?_
      refine R_aload_n (n := 30) dX1_holdsTwo_29 rfl rfl ?_
      refine gf_X1_56 (n := 33) hs dX1_holdsTwo_30 rfl ?_
      refine R_iload_n (n := 34) dX1_holdsTwo_33 rfl rfl ?_
      refine R_iconst (v := nI 1) (n := 35) dX1_holdsTwo_34 rfl rfl ?_
      refine R_iadd_n (n := 36) dX1_holdsTwo_35 rfl ?_
      refine R_iald_e (n := 37) hs.2.1 (rfl) (by omega) dX1_holdsTwo_36 rfl (hr _ (by omega)) ?_
      refine R_iald_e (n := 38) sh_4 (rfl) (by omega) dX1_holdsTwo_37 rfl (hl _ (by omega)) ?_
      refine R_iconst (v := nI 1) (n := 39) dX1_holdsTwo_38 rfl rfl ?_
      refine R_icmp_ne (n := 42) (tgt := 46) dX1_holdsTwo_39 rfl rfl (fun h3 => ?_) (fun h3 => ?_)
      · refine R_iconst (v := nI 0) (n := 47) dX1_holdsTwo_46 rfl rfl ?_
        refine R_iret dX1_holdsTwo_47 rfl (by first | rfl | exact nar_bi _) (⟨by rw [twoF, decide_eq_false (p := len (row (p + 1)) = nI 1) h3, Bool.and_false, Bool.and_false]; rfl, rfl⟩)
      · refine R_iconst (v := nI 1) (n := 43) dX1_holdsTwo_42 rfl rfl ?_
        refine R_goto (tgt := 47) dX1_holdsTwo_43 rfl ?_
        refine R_iret dX1_holdsTwo_47 rfl (by first | rfl | exact nar_bi _) (⟨by rw [twoF, decide_eq_true h2, decide_eq_true h3, decide_eq_true (by omega)]; rfl, rfl⟩)
theorem ct_X1_isSecondFirst {n k law x y : Nat} {wt : Nat → Int32} (hs : StB b) (hn : n ≤ 6) (hk : k < 5) (hx : x < n) (hy : y < n) (hw : ∀ j, j < n → μ.1 5 j = wt j) (hlaw : μ.1 (b + 4) k = nI law) (hl4 : law < 4) : Ct G l 2 yX1_isSecondFirst cX1_isSecondFirst 5 (some .boolean) [.ref (G.2.2.1 3), .ref (G.2.2.1 b), .int (nI k), .int (nI x), .int (nI y)] μ (fun r μ' => r = some (.int (bi (swF wt law (fun j => μ.1 (b + 5) (6 * k + j)) x y))) ∧ μ' = μ) := by
  refine Ct.of 0 (by decide +kernel) rfl (Nat.le_of_ble_eq_true rfl) ?_
  show V G l RX1 cX1_isSecondFirst 5 _ false _ _ 0 [some (.ref _), some (.ref _), some (.int _), some (.int _), some (.int _)] [] _
  refine R_aload_n (n := 1) dX1_isSecondFirst_0 rfl rfl ?_
  refine gf_X1_46 (n := 4) hs dX1_isSecondFirst_1 rfl ?_
  refine R_iload_n (n := 5) dX1_isSecondFirst_4 rfl rfl ?_
  refine R_iald_e (n := 6) hs.2.2.2.2.1 (rfl) (by omega) dX1_isSecondFirst_5 rfl (hlaw) ?_
  match law, hl4 with
  | 0, _ =>
    refine R_tableOut (tgt := 78) dX1_isSecondFirst_6 (by decide) rfl ?_
    refine R_iconst (v := nI 0) (n := 79) dX1_isSecondFirst_78 rfl rfl ?_
    refine R_iret dX1_isSecondFirst_79 rfl (by first | rfl | exact nar_bi _) (⟨rfl, rfl⟩)
  | 1, _ =>
    refine R_tableIn (off := 26) (tgt := 32) dX1_isSecondFirst_6 (by decide) (by decide) (by decide) rfl ?_
    refine R_iconst (v := nI 1) (n := 33) dX1_isSecondFirst_32 rfl rfl ?_
    refine R_iret dX1_isSecondFirst_33 rfl (by first | rfl | exact nar_bi _) (⟨rfl, rfl⟩)
  | 2, _ =>
    refine R_tableIn (off := 28) (tgt := 34) dX1_isSecondFirst_6 (by decide) (by decide) (by decide) rfl ?_
    refine R_aload_n (n := 35) dX1_isSecondFirst_34 rfl rfl ?_
    refine gf_X1_15 (n := 38) dX1_isSecondFirst_35 rfl ?_
    refine R_iload (n := 40) dX1_isSecondFirst_38 rfl rfl ?_
    refine R_iald_e (n := 41) sh_5 (rfl) (by omega) dX1_isSecondFirst_40 rfl (hw _ (by omega)) ?_
    refine R_aload_n (n := 42) dX1_isSecondFirst_41 rfl rfl ?_
    refine gf_X1_15 (n := 45) dX1_isSecondFirst_42 rfl ?_
    refine R_iload_n (n := 46) dX1_isSecondFirst_45 rfl rfl ?_
    refine R_iald_e (n := 47) sh_5 (rfl) (by omega) dX1_isSecondFirst_46 rfl (hw _ (by omega)) ?_
    refine R_icmp_ge (n := 50) (tgt := 54) dX1_isSecondFirst_47 rfl rfl (fun h => ?_) (fun h => ?_)
    · refine R_iconst (v := nI 0) (n := 55) dX1_isSecondFirst_54 rfl rfl ?_
      refine R_iret dX1_isSecondFirst_55 rfl (by first | rfl | exact nar_bi _) (⟨by rw [swF, decide_eq_false (Int32.not_lt.mpr h)]; rfl, rfl⟩)
    · refine R_iconst (v := nI 1) (n := 51) dX1_isSecondFirst_50 rfl rfl ?_
      refine R_goto (tgt := 55) dX1_isSecondFirst_51 rfl ?_
      refine R_iret dX1_isSecondFirst_55 rfl (by first | rfl | exact nar_bi _) (⟨by rw [swF, decide_eq_true (Int32.not_le.mp h)]; rfl, rfl⟩)
  | 3, _ =>
    refine R_tableIn (off := 50) (tgt := 56) dX1_isSecondFirst_6 (by decide) (by decide) (by decide) rfl ?_
    refine R_aload_n (n := 57) dX1_isSecondFirst_56 rfl rfl ?_
    refine R_iload (n := 59) dX1_isSecondFirst_57 rfl rfl ?_
    refine R_iload_n (n := 60) dX1_isSecondFirst_59 rfl rfl ?_
    refine iv_X1_105 (n := 63) (ct_X5_loadsOf hs (by omega) hk) hs (by decide) dX1_isSecondFirst_60 rfl (Nat.le_of_ble_eq_true rfl) (fun r μ' hq => ?_)
    obtain ⟨rfl, hq⟩ := hq
    have hq := hq.symm
    subst hq
    refine R_aload_n (n := 64) dX1_isSecondFirst_63 rfl rfl ?_
    refine R_iload_n (n := 65) dX1_isSecondFirst_64 rfl rfl ?_
    refine R_iload_n (n := 66) dX1_isSecondFirst_65 rfl rfl ?_
    refine iv_X1_105 (n := 69) (ct_X5_loadsOf hs (by omega) hk) hs (by decide) dX1_isSecondFirst_66 rfl (Nat.le_of_ble_eq_true rfl) (fun r μ' hq => ?_)
    obtain ⟨rfl, hq⟩ := hq
    have hq := hq.symm
    subst hq
    rw [Nat.mul_comm k 6]
    refine R_icmp_le (n := 72) (tgt := 76) dX1_isSecondFirst_69 rfl rfl (fun h => ?_) (fun h => ?_)
    · refine R_iconst (v := nI 0) (n := 77) dX1_isSecondFirst_76 rfl rfl ?_
      refine R_iret dX1_isSecondFirst_77 rfl (by first | rfl | exact nar_bi _) (⟨by rw [swF, decide_eq_false (Int32.not_lt.mpr h)]; rfl, rfl⟩)
    · refine R_iconst (v := nI 1) (n := 73) dX1_isSecondFirst_72 rfl rfl ?_
      refine R_goto (tgt := 77) dX1_isSecondFirst_73 rfl ?_
      refine R_iret dX1_isSecondFirst_77 rfl (by first | rfl | exact nar_bi _) (⟨by rw [swF, decide_eq_true (Int32.not_le.mp h)]; rfl, rfl⟩)
theorem bi_t : bi true = nI 1 := rfl
theorem bi_f : bi false = nI 0 := rfl
theorem ct_X1_goThroughNext (hs : StB b) (hb6 : 6 ≤ b) (hC : CCf μ C) (hS : CSt μ b z C S) (hO : Ok C z S) (hlt : sPsd S < C.2.1) : Ct G l 3 yX1_goThroughNext cX1_goThroughNext 8 none [.ref (G.2.2.1 3), .ref (G.2.2.1 b)] μ (fun r μ' => r = none ∧ CSt μ' b z C (pass1 C z S) ∧ Sme (Pst b) μ μ') := by
  obtain ⟨n, L, len, wt⟩ := C
  obtain ⟨hcL, hcn, hcl, hcw⟩ := hC
  obtain ⟨hn6, hL5, hzn, hrow, hlaw, -⟩ := hO
  obtain ⟨hSr, hSh, hSt, hSl, hSg, hSz, hSp⟩ := id hS
  dsimp only at hcL hcn hcl hcw hn6 hL5 hzn hrow hlaw hlt hSt hSl
  generalize hk : sPsd S = k at *
  refine Ct.of 6 (by decide +kernel) rfl (Nat.le_of_ble_eq_true rfl) ?_
  show V G l RX1 cX1_goThroughNext 8 _ false none _ 0 [some (.ref _), some (.ref _), none, none, none, none, none, none] [] _
  refine R_aload_n (n := 1) dX1_goThroughNext_0 rfl rfl ?_
  refine ge_X1_62 (n := 4) hs dX1_goThroughNext_1 rfl (hSp) ?_
  refine R_istore_n (n := 5) dX1_goThroughNext_4 rfl (Nat.le_of_ble_eq_true rfl) (Nat.le_of_ble_eq_true rfl) ?_
  refine R_aload_n (n := 6) dX1_goThroughNext_5 rfl rfl ?_
  refine R_iload_n (n := 7) dX1_goThroughNext_6 rfl rfl ?_
  refine iv_X1_80 (n := 10) (ct_X1_hasLock (nI k) hcL) (by decide) dX1_goThroughNext_7 rfl (Nat.le_of_ble_eq_true rfl) (fun r μ' hq => ?_)
  obtain ⟨rfl, hq⟩ := hq
  have hq := hq.symm
  subst hq
  rw [inR_nI (by omega) hlt]
  refine R_if_ne_t (tgt := 14) dX1_goThroughNext_10 rfl (by decide) ?_
  refine R_iconst (v := nI 0) (n := 15) dX1_goThroughNext_14 rfl rfl ?_
  refine R_istore_n (n := 16) dX1_goThroughNext_15 rfl (Nat.le_of_ble_eq_true rfl) (Nat.le_of_ble_eq_true rfl) ?_
  refine R_iconst (v := nI 0) (n := 17) dX1_goThroughNext_16 rfl rfl ?_
  refine R_istore (n := 19) dX1_goThroughNext_17 rfl (Nat.le_of_ble_eq_true rfl) (Nat.le_of_ble_eq_true rfl) ?_
  have hl4 := hlaw k hlt
  generalize hR : goS (n, L, len, wt) z S = R
  have hend : ∀ μ1 : Mem, (∀ q, q < z → μ1.1 (b + 1) q = nI (R.1 q)) → (∀ j, j < 6 → μ1.1 (b + 2) j = R.2.1 j) → Sme (Pst b) μ μ1 → CSt (sti μ1 b 6 (nI (k + 1))) b z (n, L, len, wt) (pass1 (n, L, len, wt) z S) ∧ Sme (Pst b) μ (sti μ1 b 6 (nI (k + 1))) := by
    intro μ1 h1 h2 h3
    refine ⟨⟨fun p hp => ?_, fun j hj => ?_, fun j hj => ?_, fun j hj => ?_, fun e he => ?_, ?_, ?_⟩, h3.sti (Or.inl ⟨rfl, rfl⟩)⟩
    · rw [sti_1_ne _ _ _ (by omega), h1 p hp, pass1, hR]; rfl
    · rw [sti_1_ne _ _ _ (by omega), h2 j hj, pass1, hR]; rfl
    · rw [sti_1_ne _ _ _ (by omega), h3.1 _ _ (by omega)]; exact hSt j hj
    · rw [sti_1_ne _ _ _ (by omega), h3.1 _ _ (by omega)]; exact hSl j hj
    · rw [sti_1_ne _ _ _ (by omega), h3.1 _ _ (by omega)]; exact hSg e he
    · rw [sti_1_pf _ _ _ _ _ _ (by omega), h3.1 _ _ (by omega)]; exact hSz
    · rw [sti_1_eq, pass1, hk]; rfl
  have loop : ∀ (f p : Nat) (h : Int32) (row : Nat → Nat) (hrs w : Nat → Int32) (μ1 : Mem) (j5 j6 j7 : Option Value), p ≤ z → z ≤ p + f → goL len wt (sLaw S k) (fun j => sGvn S (6 * k + j)) z f p h row hrs w = R → (∀ q, q < z → μ1.1 (b + 1) q = nI (row q)) → (∀ q, q < z → row q < n) → (∀ j, j < 6 → μ1.1 (b + 2) j = hrs j) → Sme (Pst b) μ μ1 →
      V G l RX1 cX1_goThroughNext 8 3 false none (fun r μ2 => r = none ∧ CSt μ2 b z (n, L, len, wt) (pass1 (n, L, len, wt) z S) ∧ Sme (Pst b) μ μ2) 19 [some (.ref (G.2.2.1 3)), some (.ref (G.2.2.1 b)), some (.int (nI k)), some (.int h), some (.int (nI p)), j5, j6, j7] [] μ1 := by
    intro f
    induction f with
    | zero =>
      intro p h row hrs w μ1 j5 j6 j7 hpz hf hG h1 h2 h3 h4
      have hsz : μ1.1 b 5 = nI z := (h4.1 _ _ (by omega)).trans hSz
      rw [goL_end (by omega)] at hG
      refine R_iload (n := 21) dX1_goThroughNext_19 rfl rfl ?_
      refine R_aload_n (n := 22) dX1_goThroughNext_21 rfl rfl ?_
      refine ge_X1_59 (n := 25) hs dX1_goThroughNext_22 rfl (hsz) ?_
      refine R_icmp_ge_t (tgt := 140) dX1_goThroughNext_25 rfl (by rw [nI_leI (by omega) (by omega)]; omega) ?_
      refine R_aload_n (n := 141) dX1_goThroughNext_140 rfl rfl ?_
      refine R_iload_n (n := 142) dX1_goThroughNext_141 rfl rfl ?_
      refine R_iconst (v := nI 1) (n := 143) dX1_goThroughNext_142 rfl rfl ?_
      refine R_iadd_n (n := 144) dX1_goThroughNext_143 rfl ?_
      refine pf_X1_62 (n := 147) hs dX1_goThroughNext_144 rfl ?_
      obtain ⟨e1, e2⟩ := hend μ1 (fun q hq => by rw [h1 q hq, ← hG]) (fun j hj => by rw [h3 j hj, ← hG]) h4
      refine R_ret dX1_goThroughNext_147 rfl (⟨rfl, e1, e2⟩)
    | succ f ih =>
      intro p h row hrs w μ1 j5 j6 j7 hpz hf hG h1 h2 h3 h4
      have hsz : μ1.1 b 5 = nI z := (h4.1 _ _ (by omega)).trans hSz
      by_cases hp : p < z
      · have hq := h2 p hp
        refine R_iload (n := 21) dX1_goThroughNext_19 rfl rfl ?_
        refine R_aload_n (n := 22) dX1_goThroughNext_21 rfl rfl ?_
        refine ge_X1_59 (n := 25) hs dX1_goThroughNext_22 rfl (hsz) ?_
        refine R_icmp_ge_f (n := 28) dX1_goThroughNext_25 rfl rfl (by rw [nI_leI (by omega) (by omega)]; omega) ?_
        refine R_aload_n (n := 29) dX1_goThroughNext_28 rfl rfl ?_
        refine R_aload_n (n := 30) dX1_goThroughNext_29 rfl rfl ?_
        refine R_iload (n := 32) dX1_goThroughNext_30 rfl rfl ?_
        refine iv_X1_84 (n := 35) (ct_X1_holdsTwo hs hn6 hzn hsz h1 h2 (fun j hj => (h4.1 _ _ (by omega)).trans (hcl j hj)) hp) (by decide) dX1_goThroughNext_32 rfl (Nat.le_of_ble_eq_true rfl) (fun r μ' hq => ?_)
        obtain ⟨rfl, hq⟩ := hq
        have hq := hq.symm
        subst hq
        have hq := h2 p hp
        cases ht : twoF len row z p with
        | true =>
          have hp1 : p + 1 < z := by
            rw [twoF, Bool.and_eq_true] at ht
            exact of_decide_eq_true ht.1
          have hq1 := h2 (p + 1) hp1
          rw [goL_two hp ht] at hG
          rw [bi_t]
          refine R_istore (n := 37) dX1_goThroughNext_35 rfl (Nat.le_of_ble_eq_true rfl) (Nat.le_of_ble_eq_true rfl) ?_
          refine R_aload_n (n := 38) dX1_goThroughNext_37 rfl rfl ?_
          refine gf_X1_56 (n := 41) hs dX1_goThroughNext_38 rfl ?_
          refine R_iload (n := 43) dX1_goThroughNext_41 rfl rfl ?_
          refine R_iald_e (n := 44) hs.2.1 (rfl) (by omega) dX1_goThroughNext_43 rfl (h1 _ (by omega)) ?_
          refine R_istore (n := 46) dX1_goThroughNext_44 rfl (Nat.le_of_ble_eq_true rfl) (Nat.le_of_ble_eq_true rfl) ?_
          refine R_iload (n := 48) dX1_goThroughNext_46 rfl rfl ?_
          refine R_if_eq_f (n := 51) dX1_goThroughNext_48 rfl rfl (by decide) ?_
          refine R_aload_n (n := 52) dX1_goThroughNext_51 rfl rfl ?_
          refine gf_X1_56 (n := 55) hs dX1_goThroughNext_52 rfl ?_
          refine R_iload (n := 57) dX1_goThroughNext_55 rfl rfl ?_
          refine R_iconst (v := nI 1) (n := 58) dX1_goThroughNext_57 rfl rfl ?_
          refine R_iadd_n (n := 59) dX1_goThroughNext_58 rfl ?_
          refine R_iald_e (n := 60) hs.2.1 (rfl) (by omega) dX1_goThroughNext_59 rfl (h1 _ (by omega)) ?_
          refine R_goto (tgt := 65) dX1_goThroughNext_60 rfl ?_
          refine R_istore (n := 67) dX1_goThroughNext_65 rfl (Nat.le_of_ble_eq_true rfl) (Nat.le_of_ble_eq_true rfl) ?_
          refine R_iconst (v := nI 1) (n := 68) dX1_goThroughNext_67 rfl rfl ?_
          refine R_iload_n (n := 69) dX1_goThroughNext_68 rfl rfl ?_
          refine R_aload_n (n := 70) dX1_goThroughNext_69 rfl rfl ?_
          refine gf_X1_88 (n := 73) hs dX1_goThroughNext_70 rfl ?_
          refine R_iload (n := 75) dX1_goThroughNext_73 rfl rfl ?_
          refine R_iald_e (n := 76) hs.2.2.1 (rfl) (by omega) dX1_goThroughNext_75 rfl (h3 _ (by omega)) ?_
          refine R_aload_n (n := 77) dX1_goThroughNext_76 rfl rfl ?_
          refine gf_X1_88 (n := 80) hs dX1_goThroughNext_77 rfl ?_
          refine R_iload (n := 82) dX1_goThroughNext_80 rfl rfl ?_
          refine R_iald_e (n := 83) hs.2.2.1 (rfl) (by omega) dX1_goThroughNext_82 rfl (h3 _ (by omega)) ?_
          refine R_mx (n := 86) tM_RX1_91 (by decide) (Nat.le_of_ble_eq_true rfl) dX1_goThroughNext_83 rfl ?_
          refine R_mx (n := 89) tM_RX1_91 (by decide) (Nat.le_of_ble_eq_true rfl) dX1_goThroughNext_86 rfl ?_
          refine R_iadd (n := 90) dX1_goThroughNext_89 rfl ?_
          refine R_istore_n (n := 91) dX1_goThroughNext_90 rfl (Nat.le_of_ble_eq_true rfl) (Nat.le_of_ble_eq_true rfl) ?_
          refine R_aload_n (n := 92) dX1_goThroughNext_91 rfl rfl ?_
          refine gf_X1_88 (n := 95) hs dX1_goThroughNext_92 rfl ?_
          refine R_iload (n := 97) dX1_goThroughNext_95 rfl rfl ?_
          refine R_iload_n (n := 98) dX1_goThroughNext_97 rfl rfl ?_
          refine R_iast (n := 99) hs.2.2.1 (rfl) (by omega) dX1_goThroughNext_98 rfl ?_
          refine R_aload_n (n := 100) dX1_goThroughNext_99 rfl rfl ?_
          refine gf_X1_88 (n := 103) hs dX1_goThroughNext_100 rfl ?_
          refine R_iload (n := 105) dX1_goThroughNext_103 rfl rfl ?_
          refine R_iload_n (n := 106) dX1_goThroughNext_105 rfl rfl ?_
          refine R_iast (n := 107) hs.2.2.1 (rfl) (by omega) dX1_goThroughNext_106 rfl ?_
          refine R_iload (n := 109) dX1_goThroughNext_107 rfl rfl ?_
          refine R_if_eq_f (n := 112) dX1_goThroughNext_109 rfl rfl (by decide) ?_
          refine R_aload_n (n := 113) dX1_goThroughNext_112 rfl rfl ?_
          refine R_aload_n (n := 114) dX1_goThroughNext_113 rfl rfl ?_
          refine R_iload_n (n := 115) dX1_goThroughNext_114 rfl rfl ?_
          refine R_iload (n := 117) dX1_goThroughNext_115 rfl rfl ?_
          refine R_iload (n := 119) dX1_goThroughNext_117 rfl rfl ?_
          have hS6 : Sme (Pst b) μ (sti (sti μ1 (b + 2) (row p) (nI 1 + mx h (mx (hrs (row p)) (hrs (row (p + 1)))))) (b + 2) (row (p + 1)) (nI 1 + mx h (mx (hrs (row p)) (hrs (row (p + 1)))))) := (h4.sti (Or.inr (Or.inr rfl))).sti (Or.inr (Or.inr rfl))
          have hr6 : ∀ q, q < z → row q < 6 := fun q hq => Nat.lt_of_lt_of_le (h2 q hq) hn6
          generalize hH : nI 1 + mx h (mx (hrs (row p)) (hrs (row (p + 1)))) = hh at *
          have hh3 : ∀ j, j < 6 → (sti (sti μ1 (b + 2) (row p) hh) (b + 2) (row (p + 1)) hh).1 (b + 2) j = upd (upd hrs (row p) hh) (row (p + 1)) hh j := by
            intro j hj
            rw [sti_1, sti_1]
            unfold upd
            by_cases e1 : j = row (p + 1)
            · rw [if_pos ⟨rfl, e1⟩, if_pos e1]
            · rw [if_neg (fun z => e1 z.2), if_neg e1]
              by_cases e2 : j = row p
              · rw [if_pos ⟨rfl, e2⟩, if_pos e2]
              · rw [if_neg (fun z => e2 z.2), if_neg e2]
                exact h3 j hj
          have hh1 : ∀ q, q < z → (sti (sti μ1 (b + 2) (row p) hh) (b + 2) (row (p + 1)) hh).1 (b + 1) q = nI (row q) := by
            intro q hq
            rw [sti_1_ne _ _ _ (by omega), sti_1_ne _ _ _ (by omega)]
            exact h1 q hq
          generalize sti (sti μ1 (b + 2) (row p) hh) (b + 2) (row (p + 1)) hh = μ3 at *
          have hsz3 : μ3.1 b 5 = nI z := (hS6.1 _ _ (by omega)).trans hSz
          refine iv_X1_97 (n := 122) (ct_X1_isSecondFirst hs hn6 (by omega) hq hq1 (fun j hj => (hS6.1 _ _ (by omega)).trans (hcw j hj)) ((hS6.1 _ _ (by omega)).trans (hSl k (by omega))) hl4) (by decide) dX1_goThroughNext_119 rfl (Nat.le_of_ble_eq_true rfl) (fun r μ' hq => ?_)
          obtain ⟨rfl, hq⟩ := hq
          have hq := hq.symm
          subst hq
          have hsw : swF wt (sLaw S k) (fun j => μ3.1 (b + 5) (6 * k + j)) (row p) (row (p + 1)) = swF wt (sLaw S k) (fun j => sGvn S (6 * k + j)) (row p) (row (p + 1)) := by
            exact swF_congr ((hS6.1 _ _ (by omega)).trans (hSg _ (by omega))) ((hS6.1 _ _ (by omega)).trans (hSg _ (by omega)))
          rw [hsw]
          cases hw : swF wt (sLaw S k) (fun j => sGvn S (6 * k + j)) (row p) (row (p + 1)) with
          | true =>
            rw [if_pos hw] at hG
            refine R_if_eq_f (n := 125) dX1_goThroughNext_122 rfl rfl (by decide) ?_
            refine R_aload_n (n := 126) dX1_goThroughNext_125 rfl rfl ?_
            refine R_iload (n := 128) dX1_goThroughNext_126 rfl rfl ?_
            refine iv_X1_101 (n := 131) (ct_X5_turn hs (by omega) hsz3 hp1) hs (by decide) dX1_goThroughNext_128 rfl (Nat.le_of_ble_eq_true rfl) (fun r μ' hq => ?_)
            obtain ⟨rfl, hq⟩ := hq
            have hq := hq.symm
            subst hq
            refine R_iinc (n := 134) dX1_goThroughNext_131 rfl rfl (nI_1 _) (Nat.le_of_ble_eq_true rfl) ?_
            refine R_iinc (n := 137) dX1_goThroughNext_134 rfl rfl (nI_1 _) (Nat.le_of_ble_eq_true rfl) ?_
            refine R_goto (tgt := 19) dX1_goThroughNext_137 rfl ?_
            refine ih (p + 2) hh (swp row p) _ _ _ _ _ _ (by omega) (by omega) hG (fun q hq => ?_) (fun q hq => ?_) (fun j hj => ?_) ((hS6.sti (Or.inr (Or.inl rfl))).sti (Or.inr (Or.inl rfl)))
            · rw [sti_1, sti_1]
              unfold swp
              by_cases e1 : q = p + 1
              · rw [if_pos ⟨rfl, e1⟩, if_pos e1, hh1 p hp]
              · rw [if_neg (fun z => e1 z.2), if_neg e1]
                by_cases e2 : q = p
                · rw [if_pos ⟨rfl, e2⟩, if_pos e2, hh1 _ hp1]
                · rw [if_neg (fun z => e2 z.2), if_neg e2, hh1 q hq]
            · unfold swp
              split
              · exact h2 p hp
              · split
                · exact h2 _ hp1
                · exact h2 q hq
            · rw [sti_1_ne _ _ _ (by omega), sti_1_ne _ _ _ (by omega)]
              exact hh3 j hj
          | false =>
            rw [if_neg (by rw [hw]; decide)] at hG
            refine R_if_eq_t (tgt := 131) dX1_goThroughNext_122 rfl (by decide) ?_
            refine R_iinc (n := 134) dX1_goThroughNext_131 rfl rfl (nI_1 _) (Nat.le_of_ble_eq_true rfl) ?_
            refine R_iinc (n := 137) dX1_goThroughNext_134 rfl rfl (nI_1 _) (Nat.le_of_ble_eq_true rfl) ?_
            refine R_goto (tgt := 19) dX1_goThroughNext_137 rfl ?_
            exact ih (p + 2) hh row _ _ _ _ _ _ (by omega) (by omega) hG hh1 h2 hh3 hS6
        | false =>
          rw [goL_one hp ht] at hG
          rw [bi_f]
          have hr6 : row p < 6 := Nat.lt_of_lt_of_le (h2 p hp) hn6
          refine R_istore (n := 37) dX1_goThroughNext_35 rfl (Nat.le_of_ble_eq_true rfl) (Nat.le_of_ble_eq_true rfl) ?_
          refine R_aload_n (n := 38) dX1_goThroughNext_37 rfl rfl ?_
          refine gf_X1_56 (n := 41) hs dX1_goThroughNext_38 rfl ?_
          refine R_iload (n := 43) dX1_goThroughNext_41 rfl rfl ?_
          refine R_iald_e (n := 44) hs.2.1 (rfl) (by omega) dX1_goThroughNext_43 rfl (h1 _ (by omega)) ?_
          refine R_istore (n := 46) dX1_goThroughNext_44 rfl (Nat.le_of_ble_eq_true rfl) (Nat.le_of_ble_eq_true rfl) ?_
          refine R_iload (n := 48) dX1_goThroughNext_46 rfl rfl ?_
          refine R_if_eq_t (tgt := 63) dX1_goThroughNext_48 rfl (by decide) ?_
          refine R_iload (n := 65) dX1_goThroughNext_63 rfl rfl ?_
          refine R_istore (n := 67) dX1_goThroughNext_65 rfl (Nat.le_of_ble_eq_true rfl) (Nat.le_of_ble_eq_true rfl) ?_
          refine R_iconst (v := nI 1) (n := 68) dX1_goThroughNext_67 rfl rfl ?_
          refine R_iload_n (n := 69) dX1_goThroughNext_68 rfl rfl ?_
          refine R_aload_n (n := 70) dX1_goThroughNext_69 rfl rfl ?_
          refine gf_X1_88 (n := 73) hs dX1_goThroughNext_70 rfl ?_
          refine R_iload (n := 75) dX1_goThroughNext_73 rfl rfl ?_
          refine R_iald_e (n := 76) hs.2.2.1 (rfl) (by omega) dX1_goThroughNext_75 rfl (h3 _ (by omega)) ?_
          refine R_aload_n (n := 77) dX1_goThroughNext_76 rfl rfl ?_
          refine gf_X1_88 (n := 80) hs dX1_goThroughNext_77 rfl ?_
          refine R_iload (n := 82) dX1_goThroughNext_80 rfl rfl ?_
          refine R_iald_e (n := 83) hs.2.2.1 (rfl) (by omega) dX1_goThroughNext_82 rfl (h3 _ (by omega)) ?_
          refine R_mx (n := 86) tM_RX1_91 (by decide) (Nat.le_of_ble_eq_true rfl) dX1_goThroughNext_83 rfl ?_
          refine R_mx (n := 89) tM_RX1_91 (by decide) (Nat.le_of_ble_eq_true rfl) dX1_goThroughNext_86 rfl ?_
          refine R_iadd (n := 90) dX1_goThroughNext_89 rfl ?_
          refine R_istore_n (n := 91) dX1_goThroughNext_90 rfl (Nat.le_of_ble_eq_true rfl) (Nat.le_of_ble_eq_true rfl) ?_
          refine R_aload_n (n := 92) dX1_goThroughNext_91 rfl rfl ?_
          refine gf_X1_88 (n := 95) hs dX1_goThroughNext_92 rfl ?_
          refine R_iload (n := 97) dX1_goThroughNext_95 rfl rfl ?_
          refine R_iload_n (n := 98) dX1_goThroughNext_97 rfl rfl ?_
          refine R_iast (n := 99) hs.2.2.1 (rfl) (by omega) dX1_goThroughNext_98 rfl ?_
          refine R_aload_n (n := 100) dX1_goThroughNext_99 rfl rfl ?_
          refine gf_X1_88 (n := 103) hs dX1_goThroughNext_100 rfl ?_
          refine R_iload (n := 105) dX1_goThroughNext_103 rfl rfl ?_
          refine R_iload_n (n := 106) dX1_goThroughNext_105 rfl rfl ?_
          refine R_iast (n := 107) hs.2.2.1 (rfl) (by omega) dX1_goThroughNext_106 rfl ?_
          refine R_iload (n := 109) dX1_goThroughNext_107 rfl rfl ?_
          refine R_if_eq_t (tgt := 134) dX1_goThroughNext_109 rfl (by decide) ?_
          refine R_iinc (n := 137) dX1_goThroughNext_134 rfl rfl (nI_1 _) (Nat.le_of_ble_eq_true rfl) ?_
          refine R_goto (tgt := 19) dX1_goThroughNext_137 rfl ?_
          refine ih (p + 1) _ row _ _ _ _ _ _ (by omega) (by omega) hG (fun q hq => ?_) h2 (fun j hj => ?_) ((h4.sti (Or.inr (Or.inr rfl))).sti (Or.inr (Or.inr rfl)))
          · rw [sti_1_ne _ _ _ (by omega), sti_1_ne _ _ _ (by omega)]
            exact h1 q hq
          · rw [sti_1, sti_1]
            unfold upd
            by_cases e1 : j = row p
            · rw [if_pos ⟨rfl, e1⟩, if_pos e1]
            · rw [if_neg (fun z => e1 z.2), if_neg e1, if_neg (fun z => e1 z.2), if_neg e1]
              exact h3 j hj
      · rw [goL_end hp] at hG
        refine R_iload (n := 21) dX1_goThroughNext_19 rfl rfl ?_
        refine R_aload_n (n := 22) dX1_goThroughNext_21 rfl rfl ?_
        refine ge_X1_59 (n := 25) hs dX1_goThroughNext_22 rfl (hsz) ?_
        refine R_icmp_ge_t (tgt := 140) dX1_goThroughNext_25 rfl (by rw [nI_leI (by omega) (by omega)]; omega) ?_
        refine R_aload_n (n := 141) dX1_goThroughNext_140 rfl rfl ?_
        refine R_iload_n (n := 142) dX1_goThroughNext_141 rfl rfl ?_
        refine R_iconst (v := nI 1) (n := 143) dX1_goThroughNext_142 rfl rfl ?_
        refine R_iadd_n (n := 144) dX1_goThroughNext_143 rfl ?_
        refine pf_X1_62 (n := 147) hs dX1_goThroughNext_144 rfl ?_
        obtain ⟨e1, e2⟩ := hend μ1 (fun q hq => by rw [h1 q hq, ← hG]) (fun j hj => by rw [h3 j hj, ← hG]) h4
        refine R_ret dX1_goThroughNext_147 rfl (⟨rfl, e1, e2⟩)
  exact loop z 0 _ _ _ _ μ _ _ _ (Nat.zero_le _) (by omega) (by rw [← hR, goS, hk]) hSr hrow hSh (Sme.rf _ _)
end CN2
end CN

