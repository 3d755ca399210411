/-! WHO GAVE, RESTS, ASLEEP, DAYS -/
def addBits (S : ST) (k s : Nat) : Nat → ST
  | 0 => S
  | j + 1 => addE (addBits S k s j) (k * 6 + j) (nI (tb s j))
def setLaw (S : ST) (k v : Nat) : ST := mkS (sRow S) (sHrs S) (sTea S) (updN (sLaw S) k v) (sGvn S) (sPsd S)
def comeF (C : CF) (S : ST) (k : Nat) (x : Int32) (s : Nat) : Bool := decide (fig (sRow (gos C C.1 (k + 1 - sPsd S) (addBits (setLaw S k 3) k s C.1))) C.1 = x)
def gvL (p : Nat → Bool) : Nat → Nat → Int32 → Int32 → Int32 → Int32 × Int32 × Int32
  | 0, _, c, a, o => (c, a, o)
  | f + 1, s, c, a, o => if p s = true then gvL p f (s + 1) (c + nI 1) (a &&& nI s) (o ||| nI s) else gvL p f (s + 1) c a o
def lsT (C : CF) (S : ST) (one other k a b : Nat) : ST := bas C (addE (addE S (k * 6 + one) (nI a)) (k * 6 + other) (nI b))
def ls1 (C : CF) (S : ST) (one other k : Nat) (e : Nat) : Nat := 4 * posF (sRow (lsT C S one other k (e / 4) (e % 4))) one C.1 + e / 4
def ls2 (C : CF) (S : ST) (one other k : Nat) (e : Nat) : Nat := 4 * posF (sRow (lsT C S one other k (e / 4) (e % 4))) other C.1 + e % 4
def restL (L1 L2 : Nat → Nat) (a b : Nat) : Nat → Nat → Bool
  | 0, _ => true
  | f + 1, c => if L1 (4 * c + b) < L1 (4 * a + b) ∨ L2 (4 * a + c) < L2 (4 * a + b) then false else restL L1 L2 a b f (c + 1)
def rsB (p : Nat → Nat → Bool) (a : Nat) : Nat → Nat → Int32 × Int32 → Int32 × Int32
  | 0, _, q => q
  | f + 1, b, q => rsB p a f (b + 1) (if p a b = true then (q.1 + nI 1, if q.1 = 0 then nI (10 * a + b) else q.2) else q)
def rsA (p : Nat → Nat → Bool) : Nat → Nat → Int32 × Int32 → Int32 × Int32
  | 0, _, q => q
  | f + 1, a, q => rsA p f (a + 1) (rsB p a 4 0 q)
def pw (x : Int32) : Nat → Int32
  | 0 => nI 1
  | k + 1 => pw x k * x
def slS (C : CF) (S : ST) (s : Nat) : ST := mkS (sRow S) (sHrs S) (sTea S) (fun j => if sPsd S ≤ j ∧ tb s (j - sPsd S) = 1 then 0 else sLaw S j) (sGvn S) (sPsd S)
def isW (C : CF) (S : ST) (v place s : Nat) : Bool := decide (sRow (bas C (slS C S s)) place = v)
def asL (p : Nat → Bool) (x left : Nat) : Nat → Nat → Int32 → Int32
  | 0, _, acc => acc
  | f + 1, s, acc => asL p x left f (s + 1) (if p s = true then acc + pw (nI x) (bc s) * pw (nI (10 - x)) (left - bc s) else acc)
def agL (C : CF) (s : Nat) : Nat → Nat → ST → ST
  | 0, _, T => T
  | f + 1, k, T => agL C s f (k + 1) (addBits T k s C.1)
def fgF (C : CF) (S : ST) (v s : Nat) : Bool := decide (sRow (bas C (agL C s (C.2.1 - sPsd S) (sPsd S) S)) 0 = v)
theorem addBits_eq (S : ST) (k s : Nat) : ∀ j, sRow (addBits S k s j) = sRow S ∧ sLaw (addBits S k s j) = sLaw S ∧ sPsd (addBits S k s j) = sPsd S ∧ sHrs (addBits S k s j) = sHrs S ∧ sTea (addBits S k s j) = sTea S
  | 0 => ⟨rfl, rfl, rfl, rfl, rfl⟩
  | j + 1 => addBits_eq S k s j
theorem ok_addBits {C : CF} {z : Nat} {S : ST} (k s : Nat) : ∀ j, Ok C z S → Ok C z (addBits S k s j)
  | 0, h => h
  | j + 1, h => ok_addBits k s j h
theorem agL_eq (C : CF) (s : Nat) : ∀ f k S, sRow (agL C s f k S) = sRow S ∧ sPsd (agL C s f k S) = sPsd S
  | 0, _, _ => ⟨rfl, rfl⟩
  | f + 1, k, S => by
    obtain ⟨h1, h2⟩ := agL_eq C s f (k + 1) (addBits S k s C.1)
    obtain ⟨a1, a2, a3, a4, a5⟩ := addBits_eq S k s C.1
    exact ⟨h1.trans a1, h2.trans a3⟩
theorem ok_agL {C : CF} (s : Nat) : ∀ f k S, Ok C C.1 S → Ok C C.1 (agL C s f k S)
  | 0, _, _, h => h
  | f + 1, k, S, h => ok_agL s f (k + 1) _ (ok_addBits k s C.1 h)
theorem bc_left : ∀ n, n < 6 → ∀ s, s < 2 ^ n → bc s ≤ n := by decide +kernel
section GU
variable {G : Gm} {l : Launch} {μ : Mem} {C : CF} {S : ST}
theorem ct_X7_power (x : Int32) {k : Nat} (hk : k < 2 ^ 31) : Ct G l 1 yX7_power cX7_power 4 (some .int) [.int x, .int (nI k)] μ (fun r μ' => r = some (.int (pw x k)) ∧ μ' = μ) := by
  refine Ct.of 2 (by decide +kernel) rfl (Nat.le_of_ble_eq_true rfl) ?_
  show V G l RX7 cX7_power 4 _ false _ _ 0 [some (.int _), some (.int _), none, none] [] _
  refine R_iconst (v := nI 1) (n := 1) dX7_power_0 rfl rfl ?_
  refine R_istore_n (n := 2) dX7_power_1 rfl (Nat.le_of_ble_eq_true rfl) (Nat.le_of_ble_eq_true rfl) ?_
  refine R_iconst (v := nI 0) (n := 3) dX7_power_2 rfl rfl ?_
  refine R_istore_n (n := 4) dX7_power_3 rfl (Nat.le_of_ble_eq_true rfl) (Nat.le_of_ble_eq_true rfl) ?_
  refine down (z := k) (P := fun j => V G l RX7 cX7_power 4 1 false _ _ 4 [some (.int x), some (.int (nI k)), some (.int (pw x j)), some (.int (nI j))] [] _) ?_ ?_ 0 (Nat.zero_le _)
  · refine R_iload_n (n := 5) dX7_power_4 rfl rfl ?_
    refine R_iload_n (n := 6) dX7_power_5 rfl rfl ?_
    refine R_icmp_ge_t (tgt := 19) dX7_power_6 rfl (by rw [nI_leI (by omega) (by omega)]; omega) ?_
    refine R_iload_n (n := 20) dX7_power_19 rfl rfl ?_
    refine R_iret dX7_power_20 rfl (rfl) (⟨rfl, rfl⟩)
  · intro j hj ih
    refine R_iload_n (n := 5) dX7_power_4 rfl rfl ?_
    refine R_iload_n (n := 6) dX7_power_5 rfl rfl ?_
    refine R_icmp_ge_f (n := 9) dX7_power_6 rfl rfl (by rw [nI_leI (by omega) (by omega)]; omega) ?_
    refine R_iload_n (n := 10) dX7_power_9 rfl rfl ?_
    refine R_iload_n (n := 11) dX7_power_10 rfl rfl ?_
    refine R_imul (n := 12) dX7_power_11 rfl ?_
    refine R_istore_n (n := 13) dX7_power_12 rfl (Nat.le_of_ble_eq_true rfl) (Nat.le_of_ble_eq_true rfl) ?_
    refine R_iinc (n := 16) dX7_power_13 rfl rfl (nI_1 _) (Nat.le_of_ble_eq_true rfl) ?_
    refine R_goto (tgt := 4) dX7_power_16 rfl ?_
    exact ih
theorem ct_X2_addGivers {T : ST} {k s : Nat} (hC : CCf μ C) (hT : CSt μ 12 C.1 C T) (hn : C.1 ≤ 6) (hk : k < 5) (hs : s < 64) : Ct G l 2 yX2_addGivers cX2_addGivers 6 none [.ref (G.2.2.1 122), .ref (G.2.2.1 3), .ref (G.2.2.1 12), .int (nI k), .int (nI s)] μ (fun r μ' => r = none ∧ CSt μ' 12 C.1 C (addBits T k s C.1) ∧ Sme (fun i _ => i = 17) μ μ') := by
  refine Ct.of 1 (by decide +kernel) rfl (Nat.le_of_ble_eq_true rfl) ?_
  show V G l RX2 cX2_addGivers 6 _ false none _ 0 [some (.ref _), some (.ref _), some (.ref _), some (.int _), some (.int _), none] [] _
  refine R_iconst (v := nI 0) (n := 1) dX2_addGivers_0 rfl rfl ?_
  refine R_istore (n := 3) dX2_addGivers_1 rfl (Nat.le_of_ble_eq_true rfl) (Nat.le_of_ble_eq_true rfl) ?_
  refine down (z := C.1) (P := fun j => ∀ μ1 : Mem, CSt μ1 12 C.1 C (addBits T k s j) → Sme (fun i _ => i = 17) μ μ1 → V G l RX2 cX2_addGivers 6 2 false _ _ 3 [some (.ref _), some (.ref _), some (.ref (G.2.2.1 12)), some (.int (nI k)), some (.int (nI s)), some (.int (nI j))] [] μ1) ?_ ?_ 0 (Nat.zero_le _) μ hT (Sme.rf _ _)
  · intro μ1 h1 h2
    have hcn := (h2.1 _ _ (by omega)).trans hC.2.1
    refine R_iload (n := 5) dX2_addGivers_3 rfl rfl ?_
    refine R_aload_n (n := 6) dX2_addGivers_5 rfl rfl ?_
    refine ge_X2_18 (n := 9) dX2_addGivers_6 rfl (hcn) ?_
    refine R_icmp_ge_t (tgt := 32) dX2_addGivers_9 rfl (by rw [nI_leI (by omega) (by omega)]; omega) ?_
    refine R_ret dX2_addGivers_32 rfl (⟨rfl, h1, h2⟩)
  · intro j hj ih μ1 h1 h2
    have hcn := (h2.1 _ _ (by omega)).trans hC.2.1
    refine R_iload (n := 5) dX2_addGivers_3 rfl rfl ?_
    refine R_aload_n (n := 6) dX2_addGivers_5 rfl rfl ?_
    refine ge_X2_18 (n := 9) dX2_addGivers_6 rfl (hcn) ?_
    refine R_icmp_ge_f (n := 12) dX2_addGivers_9 rfl rfl (by rw [nI_leI (by omega) (by omega)]; omega) ?_
    refine R_aload_n (n := 13) dX2_addGivers_12 rfl rfl ?_
    refine R_iload (n := 15) dX2_addGivers_13 rfl rfl ?_
    refine R_iload_n (n := 16) dX2_addGivers_15 rfl rfl ?_
    refine R_iload (n := 18) dX2_addGivers_16 rfl rfl ?_
    refine R_iload (n := 20) dX2_addGivers_18 rfl rfl ?_
    refine R_ishr (n := 21) dX2_addGivers_20 rfl ?_
    refine R_iconst (v := nI 1) (n := 22) dX2_addGivers_21 rfl rfl ?_
    refine R_iand (n := 23) dX2_addGivers_22 rfl ?_
    rw [bit_at s hs j (by omega)]
    refine iv_X2_58 (n := 26) (ct_X5_addLoads stB_12 (by omega) hk (nI (tb s j))) stB_12 (by decide) dX2_addGivers_23 rfl (Nat.le_of_ble_eq_true rfl) (fun r μ' hq => ?_)
    obtain ⟨rfl, rfl⟩ := hq
    refine R_iinc (n := 29) dX2_addGivers_26 rfl rfl (nI_1 _) (Nat.le_of_ble_eq_true rfl) ?_
    refine R_goto (tgt := 3) dX2_addGivers_29 rfl ?_
    exact ih _ (cst_add h1 (by omega) hk) (h2.sti rfl)
theorem ct_X2_comesOutSo {k s : Nat} {x : Int32} (hQ : Qc μ C S) (hk : k < C.2.1) (hp : sPsd S ≤ k) (hs : s < 64) : Ct G l 5 yX2_comesOutSo cX2_comesOutSo 6 (some .boolean) [.ref (G.2.2.1 122), .ref (G.2.2.1 3), .int (nI k), .int (nI s), .int x] μ (fun r μ' => r = some (.int (bi (comeF C S k x s))) ∧ Sme Ptr μ μ') := by
  obtain ⟨hC, hS, hO, hP⟩ := hQ
  obtain ⟨o1, o2, o3, o4, o5, o6⟩ := id hO
  refine Ct.of 1 (by decide +kernel) rfl (Nat.le_of_ble_eq_true rfl) ?_
  show V G l RX2 cX2_comesOutSo 6 _ false _ _ 0 [some (.ref _), some (.ref _), some (.int _), some (.int _), some (.int _), none] [] _
  refine R_aload_n (n := 1) dX2_comesOutSo_0 rfl rfl ?_
  refine iv_X2_37 (n := 4) (ct_X1_newTrial) (by decide) dX2_comesOutSo_1 rfl (Nat.le_of_ble_eq_true rfl) (fun r μ' hq => ?_)
  obtain ⟨rfl, c1, c2⟩ := hq
  have hT := cst_cpy o2 o1 (by omega) hS c1
  refine R_astore (n := 6) dX2_comesOutSo_4 rfl (Nat.le_of_ble_eq_true rfl) (Nat.le_of_ble_eq_true rfl) ?_
  refine R_aload (n := 8) dX2_comesOutSo_6 rfl rfl ?_
  refine gf_X2_41 (n := 11) stB_12 dX2_comesOutSo_8 rfl ?_
  refine R_iload_n (n := 12) dX2_comesOutSo_11 rfl rfl ?_
  refine R_iconst (v := nI 3) (n := 13) dX2_comesOutSo_12 rfl rfl ?_
  refine R_iast (n := 14) stB_12.2.2.2.2.1 (rfl) (by omega) dX2_comesOutSo_13 rfl ?_
  refine R_aload_n (n := 15) dX2_comesOutSo_14 rfl rfl ?_
  refine R_aload_n (n := 16) dX2_comesOutSo_15 rfl rfl ?_
  refine R_aload (n := 18) dX2_comesOutSo_16 rfl rfl ?_
  refine R_iload_n (n := 19) dX2_comesOutSo_18 rfl rfl ?_
  refine R_iload_n (n := 20) dX2_comesOutSo_19 rfl rfl ?_
  have c3 : Sme Ptr μ (sti μ' 16 k (nI 3)) := c2.sti (by omega)
  have hT2 : CSt (sti μ' 16 k (nI 3)) 12 C.1 C (setLaw S k 3) := by
    obtain ⟨t1, t2, t3, t4, t5, t6, t7⟩ := hT
    refine ⟨fun p hp => ?_, fun p hp => ?_, fun p hp => ?_, fun p hp => ?_, fun e he => ?_, ?_, ?_⟩
    · rw [sti_1_ne _ _ _ (by omega)]; exact t1 p hp
    · rw [sti_1_ne _ _ _ (by omega)]; exact t2 p hp
    · rw [sti_1_ne _ _ _ (by omega)]; exact t3 p hp
    · rw [sti_1]
      show _ = nI (updN _ _ _ p)
      unfold updN
      by_cases e2 : p = k
      · rw [if_pos ⟨rfl, e2⟩, if_pos e2]
      · rw [if_neg (fun z => e2 z.2), if_neg e2]; exact t4 p hp
    · rw [sti_1_ne _ _ _ (by omega)]; exact t5 e he
    · rw [sti_1_ne _ _ _ (by omega)]; exact t6
    · rw [sti_1_ne _ _ _ (by omega)]; exact t7
  have hO2 : Ok C C.1 (setLaw S k 3) := by
    refine ⟨o1, o2, o3, o4, fun j hj => ?_, o6⟩
    show updN _ _ _ j < 4
    unfold updN
    split
    · omega
    · exact o5 j hj
  generalize sti μ' 16 k (nI 3) = μ2 at *
  have hC2 := hC.kept c3 (by omega) (by omega) (fun j => by omega) (fun j => by omega)
  refine iv_X2_46 (n := 23) (ct_X2_addGivers hC2 hT2 o1 (by omega) hs) (by decide) dX2_comesOutSo_20 rfl (Nat.le_of_ble_eq_true rfl) (fun r μ' hq => ?_)
  obtain ⟨rfl, g1, g2⟩ := hq
  refine R_aload_n (n := 24) dX2_comesOutSo_23 rfl rfl ?_
  refine R_aload (n := 26) dX2_comesOutSo_24 rfl rfl ?_
  refine R_iload_n (n := 27) dX2_comesOutSo_26 rfl rfl ?_
  refine R_iconst (v := nI 1) (n := 28) dX2_comesOutSo_27 rfl rfl ?_
  refine R_iadd_n (n := 29) dX2_comesOutSo_28 rfl ?_
  have hpp : sPsd (addBits (setLaw S k 3) k s C.1) = sPsd S := (addBits_eq _ _ _ _).2.2.1
  refine iv_X2_50 (n := 32) (ct_X1_goOnTo stB_12 (by omega) (hC2.kept g2 (by omega) (by omega) (fun j => by omega) (fun j => by omega)) g1 (ok_addBits k s C.1 hO2) (by omega) (by rw [hpp]; omega)) (by decide) dX2_comesOutSo_29 rfl (Nat.le_of_ble_eq_true rfl) (fun r μ' hq => ?_)
  obtain ⟨rfl, f1, f2⟩ := hq
  rw [hpp] at f1
  refine R_aload (n := 34) dX2_comesOutSo_32 rfl rfl ?_
  refine iv_X2_54 (n := 37) (ct_X5_figures stB_12 o1 f1.2.2.2.2.2.1 f1.1) stB_12 (by decide) dX2_comesOutSo_34 rfl (Nat.le_of_ble_eq_true rfl) (fun r μ' hq => ?_)
  obtain ⟨rfl, hq⟩ := hq
  have hq := hq.symm
  subst hq
  have b5 : Sme Ptr μ μ' := c3.tr ((g2.mono (fun i j h => by omega)).tr (f2.mono (fun i j h => by omega)))
  refine R_iload (n := 39) dX2_comesOutSo_37 rfl rfl ?_
  refine R_icmp_ne (n := 42) (tgt := 46) dX2_comesOutSo_39 rfl rfl (fun h => ?_) (fun h => ?_)
  · refine R_iconst (v := nI 0) (n := 47) dX2_comesOutSo_46 rfl rfl ?_
    refine R_iret dX2_comesOutSo_47 rfl (by first | rfl | exact nar_bi _) (⟨by rw [comeF, decide_eq_false h]; rfl, b5⟩)
  · refine R_iconst (v := nI 1) (n := 43) dX2_comesOutSo_42 rfl rfl ?_
    refine R_goto (tgt := 47) dX2_comesOutSo_43 rfl ?_
    refine R_iret dX2_comesOutSo_47 rfl (by first | rfl | exact nar_bi _) (⟨by rw [comeF, decide_eq_true h]; rfl, b5⟩)
abbrev Pgu : Nat → Nat → Prop := fun i j => (12 ≤ i ∧ i ≤ 17) ∨ (i = 122 ∧ 2 ≤ j)
theorem ct_X2_findGivers {k : Nat} {x : Int32} (hQ : Qc μ C S) (hk : k < C.2.1) (hp : sPsd S ≤ k) : Ct G l 6 yX2_findGivers cX2_findGivers 7 none [.ref (G.2.2.1 122), .ref (G.2.2.1 3), .int (nI k), .int x] μ (fun r μ' => r = none ∧ μ'.1 122 2 = (gvL (comeF C S k x) (2 ^ C.1) 0 (nI 0) (nI (2 ^ C.1 - 1)) (nI 0)).1 ∧ μ'.1 122 3 = (gvL (comeF C S k x) (2 ^ C.1) 0 (nI 0) (nI (2 ^ C.1 - 1)) (nI 0)).2.1 ∧ μ'.1 122 4 = nI (2 ^ C.1 - 1) &&& ((gvL (comeF C S k x) (2 ^ C.1) 0 (nI 0) (nI (2 ^ C.1 - 1)) (nI 0)).2.2 ^^^ -1) ∧ Sme Pgu μ μ') := by
  have hn6 := hQ.2.2.1.1
  have h64 : ∀ n, n < 7 → 2 ^ n < 65 ∧ 0 < 2 ^ n := by decide +kernel
  have h2n := h64 C.1 (by omega)
  generalize hR : gvL (comeF C S k x) (2 ^ C.1) 0 (nI 0) (nI (2 ^ C.1 - 1)) (nI 0) = R
  refine Ct.of 3 (by decide +kernel) rfl (Nat.le_of_ble_eq_true rfl) ?_
  show V G l RX2 cX2_findGivers 7 _ false none _ 0 [some (.ref _), some (.ref _), some (.int _), some (.int _), none, none, none] [] _
  refine R_iconst (v := nI 1) (n := 1) dX2_findGivers_0 rfl rfl ?_
  refine R_aload_n (n := 2) dX2_findGivers_1 rfl rfl ?_
  refine ge_X2_18 (n := 5) dX2_findGivers_2 rfl (hQ.1.2.1) ?_
  refine R_ishl (n := 6) dX2_findGivers_5 rfl ?_
  rw [show nI 1 <<< (nI C.1 &&& 31) = nI (2 ^ C.1) from bt_pow _ (by omega)]
  refine R_iconst (v := nI 1) (n := 7) dX2_findGivers_6 rfl rfl ?_
  refine R_isub_n (n := 8) dX2_findGivers_7 (by omega) rfl ?_
  refine R_istore (n := 10) dX2_findGivers_8 rfl (Nat.le_of_ble_eq_true rfl) (Nat.le_of_ble_eq_true rfl) ?_
  refine R_iconst (v := nI 0) (n := 11) dX2_findGivers_10 rfl rfl ?_
  refine R_istore (n := 13) dX2_findGivers_11 rfl (Nat.le_of_ble_eq_true rfl) (Nat.le_of_ble_eq_true rfl) ?_
  refine R_aload_n (n := 14) dX2_findGivers_13 rfl rfl ?_
  refine R_iconst (v := nI 0) (n := 15) dX2_findGivers_14 rfl rfl ?_
  refine pf_X2_24 (n := 18) dX2_findGivers_15 rfl ?_
  refine R_aload_n (n := 19) dX2_findGivers_18 rfl rfl ?_
  refine R_iload (n := 21) dX2_findGivers_19 rfl rfl ?_
  refine pf_X2_27 (n := 24) dX2_findGivers_21 rfl ?_
  refine R_iconst (v := nI 0) (n := 25) dX2_findGivers_24 rfl rfl ?_
  refine R_istore (n := 27) dX2_findGivers_25 rfl (Nat.le_of_ble_eq_true rfl) (Nat.le_of_ble_eq_true rfl) ?_
  have loop : ∀ (f s : Nat) (c a o : Int32) (μ1 : Mem), s + f = 2 ^ C.1 → μ1.1 122 2 = c → μ1.1 122 3 = a → Sme Pgu μ μ1 → gvL (comeF C S k x) f s c a o = R → V G l RX2 cX2_findGivers 7 6 false none (fun r μ' => r = none ∧ μ'.1 122 2 = R.1 ∧ μ'.1 122 3 = R.2.1 ∧ μ'.1 122 4 = nI (2 ^ C.1 - 1) &&& (R.2.2 ^^^ -1) ∧ Sme Pgu μ μ') 27 [some (.ref (G.2.2.1 122)), some (.ref (G.2.2.1 3)), some (.int (nI k)), some (.int x), some (.int (nI (2 ^ C.1 - 1))), some (.int o), some (.int (nI s))] [] μ1 := by
    intro f
    induction f with
    | zero =>
      intro s c a o μ1 h1 h2 h3 h4 h5
      refine R_iload (n := 29) dX2_findGivers_27 rfl rfl ?_
      refine R_iload (n := 31) dX2_findGivers_29 rfl rfl ?_
      refine R_icmp_gt_t (tgt := 80) dX2_findGivers_31 rfl (by rw [nI_ltI (by omega) (by omega)]; omega) ?_
      refine R_aload_n (n := 81) dX2_findGivers_80 rfl rfl ?_
      refine R_iload (n := 83) dX2_findGivers_81 rfl rfl ?_
      refine R_iload (n := 85) dX2_findGivers_83 rfl rfl ?_
      refine R_iconst (v := -1) (n := 86) dX2_findGivers_85 rfl rfl ?_
      refine R_ixor (n := 87) dX2_findGivers_86 rfl ?_
      refine R_iand (n := 88) dX2_findGivers_87 rfl ?_
      refine pf_X2_34 (n := 91) dX2_findGivers_88 rfl ?_
      rw [← h5]
      refine R_ret dX2_findGivers_91 rfl ⟨rfl, ?_, ?_, ?_, h4.sti (by omega)⟩
      · rw [sti_1_pf _ _ _ _ _ _ (by omega)]; exact h2
      · rw [sti_1_pf _ _ _ _ _ _ (by omega)]; exact h3
      · rw [sti_1_eq]; rfl
    | succ f ih =>
      intro s c a o μ1 h1 h2 h3 h4 h5
      rw [gvL] at h5
      refine R_iload (n := 29) dX2_findGivers_27 rfl rfl ?_
      refine R_iload (n := 31) dX2_findGivers_29 rfl rfl ?_
      refine R_icmp_gt_f (n := 34) dX2_findGivers_31 rfl rfl (by rw [nI_ltI (by omega) (by omega)]; omega) ?_
      refine R_aload_n (n := 35) dX2_findGivers_34 rfl rfl ?_
      refine R_aload_n (n := 36) dX2_findGivers_35 rfl rfl ?_
      refine R_iload_n (n := 37) dX2_findGivers_36 rfl rfl ?_
      refine R_iload (n := 39) dX2_findGivers_37 rfl rfl ?_
      refine R_iload_n (n := 40) dX2_findGivers_39 rfl rfl ?_
      refine iv_X2_30 (n := 43) (ct_X2_comesOutSo (hQ.kept h4 (fun i j z1 z2 => by omega)) hk hp (by omega)) (by decide) dX2_findGivers_40 rfl (Nat.le_of_ble_eq_true rfl) (fun r μ' hq => ?_)
      obtain ⟨rfl, s1⟩ := hq
      have h2' := (s1.1 122 2 (by omega)).trans h2
      have h3' := (s1.1 122 3 (by omega)).trans h3
      have h4' := h4.tr (s1.mono (P' := Pgu) (fun i j h => Or.inl h))
      cases hc : comeF C S k x s with
      | false =>
        rw [hc, if_neg (by decide)] at h5
        refine R_if_eq_t (tgt := 74) dX2_findGivers_43 rfl (by decide) ?_
        refine R_iinc (n := 77) dX2_findGivers_74 rfl rfl (nI_1 _) (Nat.le_of_ble_eq_true rfl) ?_
        refine R_goto (tgt := 27) dX2_findGivers_77 rfl ?_
        exact ih (s + 1) c a o μ' (by omega) h2' h3' h4' h5
      | true =>
        rw [hc, if_pos rfl] at h5
        refine R_if_eq_f (n := 46) dX2_findGivers_43 rfl rfl (by decide) ?_
        refine R_aload_n (n := 47) dX2_findGivers_46 rfl rfl ?_
        refine R_dup (n := 48) dX2_findGivers_47 rfl rfl ?_
        refine ge_X2_24 (n := 51) dX2_findGivers_48 rfl (by first | exact h2' | (rw [sti_1_pf _ _ _ _ _ _ (by omega)]; exact h2') | (rw [sti_1_pf _ _ _ _ _ _ (by omega), sti_1_pf _ _ _ _ _ _ (by omega)]; exact h2') | (rw [sti_1_pf _ _ _ _ _ _ (by omega), sti_1_pf _ _ _ _ _ _ (by omega), sti_1_pf _ _ _ _ _ _ (by omega)]; exact h2') | (rw [sti_1_pf _ _ _ _ _ _ (by omega), sti_1_pf _ _ _ _ _ _ (by omega), sti_1_pf _ _ _ _ _ _ (by omega), sti_1_pf _ _ _ _ _ _ (by omega)]; exact h2') | (rw [sti_1_pf _ _ _ _ _ _ (by omega), sti_1_pf _ _ _ _ _ _ (by omega), sti_1_pf _ _ _ _ _ _ (by omega), sti_1_pf _ _ _ _ _ _ (by omega), sti_1_pf _ _ _ _ _ _ (by omega)]; exact h2')) ?_
        refine R_iconst (v := nI 1) (n := 52) dX2_findGivers_51 rfl rfl ?_
        refine R_iadd (n := 53) dX2_findGivers_52 rfl ?_
        refine pf_X2_24 (n := 56) dX2_findGivers_53 rfl ?_
        refine R_aload_n (n := 57) dX2_findGivers_56 rfl rfl ?_
        refine R_dup (n := 58) dX2_findGivers_57 rfl rfl ?_
        refine ge_X2_27 (n := 61) dX2_findGivers_58 rfl (by first | exact h3' | (rw [sti_1_pf _ _ _ _ _ _ (by omega)]; exact h3') | (rw [sti_1_pf _ _ _ _ _ _ (by omega), sti_1_pf _ _ _ _ _ _ (by omega)]; exact h3') | (rw [sti_1_pf _ _ _ _ _ _ (by omega), sti_1_pf _ _ _ _ _ _ (by omega), sti_1_pf _ _ _ _ _ _ (by omega)]; exact h3') | (rw [sti_1_pf _ _ _ _ _ _ (by omega), sti_1_pf _ _ _ _ _ _ (by omega), sti_1_pf _ _ _ _ _ _ (by omega), sti_1_pf _ _ _ _ _ _ (by omega)]; exact h3') | (rw [sti_1_pf _ _ _ _ _ _ (by omega), sti_1_pf _ _ _ _ _ _ (by omega), sti_1_pf _ _ _ _ _ _ (by omega), sti_1_pf _ _ _ _ _ _ (by omega), sti_1_pf _ _ _ _ _ _ (by omega)]; exact h3')) ?_
        refine R_iload (n := 63) dX2_findGivers_61 rfl rfl ?_
        refine R_iand (n := 64) dX2_findGivers_63 rfl ?_
        refine pf_X2_27 (n := 67) dX2_findGivers_64 rfl ?_
        refine R_iload (n := 69) dX2_findGivers_67 rfl rfl ?_
        refine R_iload (n := 71) dX2_findGivers_69 rfl rfl ?_
        refine R_ior (n := 72) dX2_findGivers_71 rfl ?_
        refine R_istore (n := 74) dX2_findGivers_72 rfl (Nat.le_of_ble_eq_true rfl) (Nat.le_of_ble_eq_true rfl) ?_
        refine R_iinc (n := 77) dX2_findGivers_74 rfl rfl (nI_1 _) (Nat.le_of_ble_eq_true rfl) ?_
        refine R_goto (tgt := 27) dX2_findGivers_77 rfl ?_
        refine ih (s + 1) _ _ _ _ (by omega) ?_ ?_ ((h4'.sti (by omega)).sti (by omega)) h5
        · rw [sti_1_pf _ _ _ _ _ _ (by omega), sti_1_eq]
        · rw [sti_1_eq]
  refine loop (2 ^ C.1) 0 _ _ _ _ (by omega) ?_ ?_ (((Sme.rf Pgu μ).sti (by omega)).sti (by omega)) hR
  · rw [sti_1_pf _ _ _ _ _ _ (by omega), sti_1_eq]
  · rw [sti_1_eq]
def Lss (μ : Mem) (L1 L2 : Nat → Nat) : Prop := (∀ e, e < 16 → μ.1 123 e = nI (L1 e) ∧ L1 e < 2 ^ 31) ∧ ∀ e, e < 16 → μ.1 124 e = nI (L2 e) ∧ L2 e < 2 ^ 31
theorem ct_X2_isAtRest {a b : Nat} {L1 L2 : Nat → Nat} (hL : Lss μ L1 L2) (ha : a < 4) (hb : b < 4) : Ct G l 1 yX2_isAtRest cX2_isAtRest 4 (some .boolean) [.ref (G.2.2.1 122), .int (nI a), .int (nI b)] μ (fun r μ' => r = some (.int (bi (restL L1 L2 a b 4 0))) ∧ μ' = μ) := by
  refine Ct.of 1 (by decide +kernel) rfl (Nat.le_of_ble_eq_true rfl) ?_
  show V G l RX2 cX2_isAtRest 4 _ false _ _ 0 [some (.ref _), some (.int _), some (.int _), none] [] _
  refine R_iconst (v := nI 0) (n := 1) dX2_isAtRest_0 rfl rfl ?_
  refine R_istore_n (n := 2) dX2_isAtRest_1 rfl (Nat.le_of_ble_eq_true rfl) (Nat.le_of_ble_eq_true rfl) ?_
  have loop : ∀ (f c : Nat), c + f = 4 → V G l RX2 cX2_isAtRest 4 1 false (some .boolean) (fun r μ' => r = some (.int (bi (restL L1 L2 a b f c))) ∧ μ' = μ) 2 [some (.ref (G.2.2.1 122)), some (.int (nI a)), some (.int (nI b)), some (.int (nI c))] [] μ := by
    intro f
    induction f with
    | zero =>
      intro c hc
      refine R_iload_n (n := 3) dX2_isAtRest_2 rfl rfl ?_
      refine R_iconst (v := nI 4) (n := 4) dX2_isAtRest_3 rfl rfl ?_
      refine R_icmp_ge_t (tgt := 61) dX2_isAtRest_4 rfl (by rw [nI_leI (by omega) (by omega)]; omega) ?_
      refine R_iconst (v := nI 1) (n := 62) dX2_isAtRest_61 rfl rfl ?_
      refine R_iret dX2_isAtRest_62 rfl (by first | rfl | exact nar_bi _) (⟨rfl, rfl⟩)
    | succ f ih =>
      intro c hc
      have q1 := (hL.1 (4 * c + b) (by omega)).2
      have q2 := (hL.1 (4 * a + b) (by omega)).2
      have q3 := (hL.2 (4 * a + c) (by omega)).2
      have q4 := (hL.2 (4 * a + b) (by omega)).2
      rw [restL]
      refine R_iload_n (n := 3) dX2_isAtRest_2 rfl rfl ?_
      refine R_iconst (v := nI 4) (n := 4) dX2_isAtRest_3 rfl rfl ?_
      refine R_icmp_ge_f (n := 7) dX2_isAtRest_4 rfl rfl (by rw [nI_leI (by omega) (by omega)]; omega) ?_
      refine R_aload_n (n := 8) dX2_isAtRest_7 rfl rfl ?_
      refine gf_X2_11 (n := 11) dX2_isAtRest_8 rfl ?_
      refine R_iconst (v := nI 4) (n := 12) dX2_isAtRest_11 rfl rfl ?_
      refine R_iload_n (n := 13) dX2_isAtRest_12 rfl rfl ?_
      refine R_imul_n (n := 14) dX2_isAtRest_13 rfl ?_
      refine R_iload_n (n := 15) dX2_isAtRest_14 rfl rfl ?_
      refine R_iadd_n (n := 16) dX2_isAtRest_15 rfl ?_
      refine R_iald_e (n := 17) sh_123 (rfl) (by omega) dX2_isAtRest_16 rfl ((hL.1 _ (by omega)).1) ?_
      refine R_aload_n (n := 18) dX2_isAtRest_17 rfl rfl ?_
      refine gf_X2_11 (n := 21) dX2_isAtRest_18 rfl ?_
      refine R_iconst (v := nI 4) (n := 22) dX2_isAtRest_21 rfl rfl ?_
      refine R_iload_n (n := 23) dX2_isAtRest_22 rfl rfl ?_
      refine R_imul_n (n := 24) dX2_isAtRest_23 rfl ?_
      refine R_iload_n (n := 25) dX2_isAtRest_24 rfl rfl ?_
      refine R_iadd_n (n := 26) dX2_isAtRest_25 rfl ?_
      refine R_iald_e (n := 27) sh_123 (rfl) (by omega) dX2_isAtRest_26 rfl ((hL.1 _ (by omega)).1) ?_
      refine R_icmp_lt (n := 30) (tgt := 53) dX2_isAtRest_27 rfl rfl (fun h => ?_) (fun h => ?_)
      · rw [nI_ltI (by omega) (by omega)] at h
        rw [if_pos (Or.inl h)]
        refine R_iconst (v := nI 0) (n := 54) dX2_isAtRest_53 rfl rfl ?_
        refine R_iret dX2_isAtRest_54 rfl (by first | rfl | exact nar_bi _) (⟨rfl, rfl⟩)
      · rw [nI_ltI (by omega) (by omega)] at h
        refine R_aload_n (n := 31) dX2_isAtRest_30 rfl rfl ?_
        refine gf_X2_15 (n := 34) dX2_isAtRest_31 rfl ?_
        refine R_iconst (v := nI 4) (n := 35) dX2_isAtRest_34 rfl rfl ?_
        refine R_iload_n (n := 36) dX2_isAtRest_35 rfl rfl ?_
        refine R_imul_n (n := 37) dX2_isAtRest_36 rfl ?_
        refine R_iload_n (n := 38) dX2_isAtRest_37 rfl rfl ?_
        refine R_iadd_n (n := 39) dX2_isAtRest_38 rfl ?_
        refine R_iald_e (n := 40) sh_124 (rfl) (by omega) dX2_isAtRest_39 rfl ((hL.2 _ (by omega)).1) ?_
        refine R_aload_n (n := 41) dX2_isAtRest_40 rfl rfl ?_
        refine gf_X2_15 (n := 44) dX2_isAtRest_41 rfl ?_
        refine R_iconst (v := nI 4) (n := 45) dX2_isAtRest_44 rfl rfl ?_
        refine R_iload_n (n := 46) dX2_isAtRest_45 rfl rfl ?_
        refine R_imul_n (n := 47) dX2_isAtRest_46 rfl ?_
        refine R_iload_n (n := 48) dX2_isAtRest_47 rfl rfl ?_
        refine R_iadd_n (n := 49) dX2_isAtRest_48 rfl ?_
        refine R_iald_e (n := 50) sh_124 (rfl) (by omega) dX2_isAtRest_49 rfl ((hL.2 _ (by omega)).1) ?_
        refine R_icmp_ge (n := 53) (tgt := 55) dX2_isAtRest_50 rfl rfl (fun h2 => ?_) (fun h2 => ?_)
        · rw [nI_leI (by omega) (by omega)] at h2
          rw [if_neg (by omega)]
          refine R_iinc (n := 58) dX2_isAtRest_55 rfl rfl (nI_1 _) (Nat.le_of_ble_eq_true rfl) ?_
          refine R_goto (tgt := 2) dX2_isAtRest_58 rfl ?_
          exact ih (c + 1) (by omega)
        · rw [nI_leI (by omega) (by omega)] at h2
          rw [if_pos (Or.inr (by omega))]
          refine R_iconst (v := nI 0) (n := 54) dX2_isAtRest_53 rfl rfl ?_
          refine R_iret dX2_isAtRest_54 rfl (by first | rfl | exact nar_bi _) (⟨rfl, rfl⟩)
  exact loop 4 0 rfl
abbrev Pls : Nat → Nat → Prop := fun i _ => (12 ≤ i ∧ i ≤ 17) ∨ i = 123 ∨ i = 124
theorem ct_X2_findLosses {one other k : Nat} (hQ : Qc μ C S) (h1 : one < C.1) (h2 : other < C.1) (hk : k < C.2.1) : Ct G l 5 yX2_findLosses cX2_findLosses 8 none [.ref (G.2.2.1 122), .ref (G.2.2.1 3), .int (nI one), .int (nI other), .int (nI k)] μ (fun r μ' => r = none ∧ (∀ e, e < 16 → μ'.1 123 e = nI (ls1 C S one other k e) ∧ μ'.1 124 e = nI (ls2 C S one other k e)) ∧ Sme Pls μ μ') := by
  have hQ0 := hQ
  obtain ⟨hC, hS, hO, hP⟩ := hQ0
  obtain ⟨o1, o2, o3, o4, o5, o6⟩ := id hO
  refine Ct.of 3 (by decide +kernel) rfl (Nat.le_of_ble_eq_true rfl) ?_
  show V G l RX2 cX2_findLosses 8 _ false none _ 0 [some (.ref _), some (.ref _), some (.int _), some (.int _), some (.int _), none, none, none] [] _
  refine R_iconst (v := nI 0) (n := 1) dX2_findLosses_0 rfl rfl ?_
  refine R_istore (n := 3) dX2_findLosses_1 rfl (Nat.le_of_ble_eq_true rfl) (Nat.le_of_ble_eq_true rfl) ?_
  refine down (z := 4) (P := fun a => ∀ (μ1 : Mem) (j6 j7 : Option Value), (∀ e, e < 4 * a → μ1.1 123 e = nI (ls1 C S one other k e) ∧ μ1.1 124 e = nI (ls2 C S one other k e)) → Sme Pls μ μ1 → V G l RX2 cX2_findLosses 8 5 false _ _ 3 [some (.ref _), some (.ref _), some (.int (nI one)), some (.int (nI other)), some (.int (nI k)), some (.int (nI a)), j6, j7] [] μ1) ?_ ?_ 0 (Nat.zero_le _) μ _ _ (fun e h => absurd h (by omega)) (Sme.rf _ _)
  · intro μ1 j6 j7 a1 a2
    refine R_iload (n := 5) dX2_findLosses_3 rfl rfl ?_
    refine R_iconst (v := nI 4) (n := 6) dX2_findLosses_5 rfl rfl ?_
    refine R_icmp_ge_t (tgt := 112) dX2_findLosses_6 rfl (by rw [nI_leI (by omega) (by omega)]; omega) ?_
    refine R_ret dX2_findLosses_112 rfl (⟨rfl, a1, a2⟩)
  · intro a ha ih μ1 j6 j7 a1 a2
    refine R_iload (n := 5) dX2_findLosses_3 rfl rfl ?_
    refine R_iconst (v := nI 4) (n := 6) dX2_findLosses_5 rfl rfl ?_
    refine R_icmp_ge_f (n := 9) dX2_findLosses_6 rfl rfl (by rw [nI_leI (by omega) (by omega)]; omega) ?_
    refine R_iconst (v := nI 0) (n := 10) dX2_findLosses_9 rfl rfl ?_
    refine R_istore (n := 12) dX2_findLosses_10 rfl (Nat.le_of_ble_eq_true rfl) (Nat.le_of_ble_eq_true rfl) ?_
    refine down (z := 4) (P := fun b => ∀ (μ1 : Mem) (j7 : Option Value), (∀ e, e < 4 * a + b → μ1.1 123 e = nI (ls1 C S one other k e) ∧ μ1.1 124 e = nI (ls2 C S one other k e)) → Sme Pls μ μ1 → V G l RX2 cX2_findLosses 8 5 false _ _ 12 [some (.ref _), some (.ref _), some (.int (nI one)), some (.int (nI other)), some (.int (nI k)), some (.int (nI a)), some (.int (nI b)), j7] [] μ1) ?_ ?_ 0 (Nat.zero_le _) μ1 _ a1 a2
    · intro μ1 j7 a1 a2
      refine R_iload (n := 14) dX2_findLosses_12 rfl rfl ?_
      refine R_iconst (v := nI 4) (n := 15) dX2_findLosses_14 rfl rfl ?_
      refine R_icmp_ge_t (tgt := 106) dX2_findLosses_15 rfl (by rw [nI_leI (by omega) (by omega)]; omega) ?_
      refine R_iinc (n := 109) dX2_findLosses_106 rfl rfl (nI_1 _) (Nat.le_of_ble_eq_true rfl) ?_
      refine R_goto (tgt := 3) dX2_findLosses_109 rfl ?_
      exact ih _ _ _ (fun e he => a1 e (by omega)) a2
    · intro b hb ih2 μ1 j7 a1 a2
      have hQ1 := hQ.kept a2 (fun i j z1 z2 => by omega)
      refine R_iload (n := 14) dX2_findLosses_12 rfl rfl ?_
      refine R_iconst (v := nI 4) (n := 15) dX2_findLosses_14 rfl rfl ?_
      refine R_icmp_ge_f (n := 18) dX2_findLosses_15 rfl rfl (by rw [nI_leI (by omega) (by omega)]; omega) ?_
      refine R_aload_n (n := 19) dX2_findLosses_18 rfl rfl ?_
      refine iv_X2_37 (n := 22) (ct_X1_newTrial) (by decide) dX2_findLosses_19 rfl (Nat.le_of_ble_eq_true rfl) (fun r μ' hq => ?_)
      obtain ⟨rfl, c1, c2⟩ := hq
      have hT := cst_cpy o2 o1 (by omega) hQ1.2.1 c1
      refine R_astore (n := 24) dX2_findLosses_22 rfl (Nat.le_of_ble_eq_true rfl) (Nat.le_of_ble_eq_true rfl) ?_
      refine R_aload (n := 26) dX2_findLosses_24 rfl rfl ?_
      refine R_iload_n (n := 27) dX2_findLosses_26 rfl rfl ?_
      refine R_iload (n := 29) dX2_findLosses_27 rfl rfl ?_
      refine R_iload (n := 31) dX2_findLosses_29 rfl rfl ?_
      refine iv_X2_58 (n := 34) (ct_X5_addLoads stB_12 (by omega) (by omega) (nI a)) stB_12 (by decide) dX2_findLosses_31 rfl (Nat.le_of_ble_eq_true rfl) (fun r μ' hq => ?_)
      obtain ⟨rfl, rfl⟩ := hq
      have hT1 := cst_add (x := nI a) hT (j := one) (k := k) (by omega) (by omega)
      have c3 : Sme Ptr μ1 (sti μ' (12 + 5) (k * 6 + one) (μ'.1 (12 + 5) (k * 6 + one) + nI a)) := c2.sti (by omega)
      refine R_aload (n := 36) dX2_findLosses_34 rfl rfl ?_
      refine R_iload_n (n := 37) dX2_findLosses_36 rfl rfl ?_
      refine R_iload (n := 39) dX2_findLosses_37 rfl rfl ?_
      refine R_iload (n := 41) dX2_findLosses_39 rfl rfl ?_
      refine iv_X2_58 (n := 44) (ct_X5_addLoads stB_12 (by omega) (by omega) (nI b)) stB_12 (by decide) dX2_findLosses_41 rfl (Nat.le_of_ble_eq_true rfl) (fun r μ' hq => ?_)
      obtain ⟨rfl, rfl⟩ := hq
      have hT2 := cst_add (x := nI b) hT1 (j := other) (k := k) (by omega) (by omega)
      have c4 := c3.sti (i := 17) (k := k * 6 + other) (x := (sti μ' (12 + 5) (k * 6 + one) (μ'.1 (12 + 5) (k * 6 + one) + nI a)).1 17 (k * 6 + other) + nI b) (by omega)
      have hC4 := hQ1.1.kept c4 (by omega) (by omega) (fun j => by omega) (fun j => by omega)
      have hcL := hC4.1
      have hO4 : Ok C C.1 (addE (addE S (k * 6 + one) (nI a)) (k * 6 + other) (nI b)) := hO
      refine R_aload_n (n := 45) dX2_findLosses_44 rfl rfl ?_
      refine R_aload (n := 47) dX2_findLosses_45 rfl rfl ?_
      refine R_aload_n (n := 48) dX2_findLosses_47 rfl rfl ?_
      refine ge_X2_73 (n := 51) dX2_findLosses_48 rfl (hcL) ?_
      refine iv_X2_50 (n := 54) (ct_X1_goOnTo stB_12 (by omega) hC4 hT2 hO4 (Nat.le_refl _) o6) (by decide) dX2_findLosses_51 rfl (Nat.le_of_ble_eq_true rfl) (fun r μ' hq => ?_)
      obtain ⟨rfl, g1, g2⟩ := hq
      have hO5 := ok_gos (C.2.1 - sPsd S) _ hO4 (by show sPsd S + (C.2.1 - sPsd S) ≤ C.2.1; omega)
      have hP5 := pm_gos (C := C) (C.2.1 - sPsd S) (addE (addE S (k * 6 + one) (nI a)) (k * 6 + other) (nI b)) hP
      obtain ⟨p1, p2, p3⟩ := pos_spec hP5 h1
      obtain ⟨q1, q2, q3⟩ := pos_spec hP5 h2
      have e4 : (4 * a + b) / 4 = a ∧ (4 * a + b) % 4 = b := by omega
      have c5 : Sme Ptr μ1 μ' := c4.tr (g2.mono (fun i j h => by omega))
      refine R_aload_n (n := 55) dX2_findLosses_54 rfl rfl ?_
      refine gf_X2_11 (n := 58) dX2_findLosses_55 rfl ?_
      refine R_iconst (v := nI 4) (n := 59) dX2_findLosses_58 rfl rfl ?_
      refine R_iload (n := 61) dX2_findLosses_59 rfl rfl ?_
      refine R_imul_n (n := 62) dX2_findLosses_61 rfl ?_
      refine R_iload (n := 64) dX2_findLosses_62 rfl rfl ?_
      refine R_iadd_n (n := 65) dX2_findLosses_64 rfl ?_
      refine R_iconst (v := nI 4) (n := 66) dX2_findLosses_65 rfl rfl ?_
      refine R_aload (n := 68) dX2_findLosses_66 rfl rfl ?_
      refine R_iload_n (n := 69) dX2_findLosses_68 rfl rfl ?_
      refine iv_X2_76 (n := 72) (ct_X5_placeOf stB_12 o1 g1.2.2.2.2.2.1 g1.1 (fun p hp => Nat.lt_of_lt_of_le (hO5.2.2.2.1 p hp) o1) (by omega) p1 p2 p3) stB_12 (by decide) dX2_findLosses_69 rfl (Nat.le_of_ble_eq_true rfl) (fun r μ' hq => ?_)
      obtain ⟨rfl, hq⟩ := hq
      have hq := hq.symm
      subst hq
      refine R_imul_n (n := 73) dX2_findLosses_72 rfl ?_
      refine R_iload (n := 75) dX2_findLosses_73 rfl rfl ?_
      refine R_iadd_n (n := 76) dX2_findLosses_75 rfl ?_
      refine R_iast (n := 77) sh_123 (rfl) (by omega) dX2_findLosses_76 rfl ?_
      refine R_aload_n (n := 78) dX2_findLosses_77 rfl rfl ?_
      refine gf_X2_15 (n := 81) dX2_findLosses_78 rfl ?_
      refine R_iconst (v := nI 4) (n := 82) dX2_findLosses_81 rfl rfl ?_
      refine R_iload (n := 84) dX2_findLosses_82 rfl rfl ?_
      refine R_imul_n (n := 85) dX2_findLosses_84 rfl ?_
      refine R_iload (n := 87) dX2_findLosses_85 rfl rfl ?_
      refine R_iadd_n (n := 88) dX2_findLosses_87 rfl ?_
      refine R_iconst (v := nI 4) (n := 89) dX2_findLosses_88 rfl rfl ?_
      refine R_aload (n := 91) dX2_findLosses_89 rfl rfl ?_
      refine R_iload_n (n := 92) dX2_findLosses_91 rfl rfl ?_
      have g1' := g1.kept (P := fun i _ => i = 123) ((Sme.rf (fun i _ => i = 123) μ').sti (i := 123) (k := 4 * a + b) (x := nI (4 * posF (sRow (gos C C.1 (C.2.1 - sPsd S) (addE (addE S (k * 6 + one) (nI a)) (k * 6 + other) (nI b)))) one C.1 + a)) rfl) (fun i j z1 z2 => by omega)
      refine iv_X2_76 (n := 95) (ct_X5_placeOf stB_12 o1 g1'.2.2.2.2.2.1 g1'.1 (fun p hp => Nat.lt_of_lt_of_le (hO5.2.2.2.1 p hp) o1) (by omega) q1 q2 q3) stB_12 (by decide) dX2_findLosses_92 rfl (Nat.le_of_ble_eq_true rfl) (fun r μ' hq => ?_)
      obtain ⟨rfl, hq⟩ := hq
      have hq := hq.symm
      subst hq
      refine R_imul_n (n := 96) dX2_findLosses_95 rfl ?_
      refine R_iload (n := 98) dX2_findLosses_96 rfl rfl ?_
      refine R_iadd_n (n := 99) dX2_findLosses_98 rfl ?_
      refine R_iast (n := 100) sh_124 (rfl) (by omega) dX2_findLosses_99 rfl ?_
      refine R_iinc (n := 103) dX2_findLosses_100 rfl rfl (nI_1 _) (Nat.le_of_ble_eq_true rfl) ?_
      refine R_goto (tgt := 12) dX2_findLosses_103 rfl ?_
      refine ih2 _ _ (fun e he => ?_) (((a2.tr (c5.mono (fun i j h => Or.inl h))).sti (by omega)).sti (by omega))
      by_cases ee : e = 4 * a + b
      · rw [ee, sti_1_eq, sti_1_ne _ _ _ (by omega), sti_1_eq, ls1, ls2, e4.1, e4.2]
        exact ⟨rfl, rfl⟩
      · rw [sti_1_pf _ _ _ _ _ _ (by omega), sti_1_pf _ _ _ _ _ _ (by omega), sti_1_pf _ _ _ _ _ _ (by omega), sti_1_pf _ _ _ _ _ _ (by omega), c5.1 _ _ (by omega), c5.1 _ _ (by omega)]
        exact a1 e (by omega)
abbrev Prs : Nat → Nat → Prop := fun i j => (12 ≤ i ∧ i ≤ 17) ∨ i = 123 ∨ i = 124 ∨ (i = 122 ∧ 2 ≤ j)
theorem ls_lt {one other k : Nat} (hP : Pm C.1 (sRow S)) (hn : C.1 ≤ 6) (h1 : one < C.1) (h2 : other < C.1) : ∀ e, e < 16 → ls1 C S one other k e < 2 ^ 31 ∧ ls2 C S one other k e < 2 ^ 31 := by
  intro e he
  have hP5 := pm_gos (C := C) (C.2.1 - sPsd S) (addE (addE S (k * 6 + one) (nI (e / 4))) (k * 6 + other) (nI (e % 4))) hP
  have p1 : posF (sRow (lsT C S one other k (e / 4) (e % 4))) one C.1 < C.1 := (pos_spec hP5 h1).1
  have p2 : posF (sRow (lsT C S one other k (e / 4) (e % 4))) other C.1 < C.1 := (pos_spec hP5 h2).1
  unfold ls1 ls2
  omega
theorem ct_X2_findRests {one other k : Nat} (hQ : Qc μ C S) (h1 : one < C.1) (h2 : other < C.1) (hk : k < C.2.1) : Ct G l 6 yX2_findRests cX2_findRests 7 none [.ref (G.2.2.1 122), .ref (G.2.2.1 3), .int (nI one), .int (nI other), .int (nI k)] μ (fun r μ' => r = none ∧ μ'.1 122 2 = (rsA (fun a b => restL (ls1 C S one other k) (ls2 C S one other k) a b 4 0) 4 0 (nI 0, -9)).1 ∧ μ'.1 122 5 = (rsA (fun a b => restL (ls1 C S one other k) (ls2 C S one other k) a b 4 0) 4 0 (nI 0, -9)).2 ∧ Sme Prs μ μ') := by
  generalize hR : rsA (fun a b => restL (ls1 C S one other k) (ls2 C S one other k) a b 4 0) 4 0 (nI 0, -9) = R
  have hlt := ls_lt (k := k) hQ.2.2.2 hQ.2.2.1.1 h1 h2
  refine Ct.of 2 (by decide +kernel) rfl (Nat.le_of_ble_eq_true rfl) ?_
  show V G l RX2 cX2_findRests 7 _ false none _ 0 [some (.ref _), some (.ref _), some (.int _), some (.int _), some (.int _), none, none] [] _
  refine R_aload_n (n := 1) dX2_findRests_0 rfl rfl ?_
  refine R_aload_n (n := 2) dX2_findRests_1 rfl rfl ?_
  refine R_iload_n (n := 3) dX2_findRests_2 rfl rfl ?_
  refine R_iload_n (n := 4) dX2_findRests_3 rfl rfl ?_
  refine R_iload (n := 6) dX2_findRests_4 rfl rfl ?_
  refine iv_X2_62 (n := 9) (ct_X2_findLosses hQ h1 h2 hk) (by decide) dX2_findRests_6 rfl (Nat.le_of_ble_eq_true rfl) (fun r μ' hq => ?_)
  obtain ⟨rfl, q1, q2⟩ := hq
  have hL : ∀ μ1 : Mem, Sme (fun i j => i = 122 ∧ 2 ≤ j) μ' μ1 → Lss μ1 (ls1 C S one other k) (ls2 C S one other k) := fun μ1 h => ⟨fun e he => ⟨(h.1 _ _ (by omega)).trans (q1 e he).1, (hlt e he).1⟩, fun e he => ⟨(h.1 _ _ (by omega)).trans (q1 e he).2, (hlt e he).2⟩⟩
  have hS0 : ∀ μ1 : Mem, Sme (fun i j => i = 122 ∧ 2 ≤ j) μ' μ1 → Sme Prs μ μ1 := fun μ1 h => (q2.mono (fun i j h => by omega)).tr (h.mono (fun i j h => by omega))
  refine R_aload_n (n := 10) dX2_findRests_9 rfl rfl ?_
  refine R_iconst (v := nI 0) (n := 11) dX2_findRests_10 rfl rfl ?_
  refine pf_X2_24 (n := 14) dX2_findRests_11 rfl ?_
  refine R_aload_n (n := 15) dX2_findRests_14 rfl rfl ?_
  refine R_bipush (v := -9) (n := 17) dX2_findRests_15 rfl rfl ?_
  refine pf_X2_66 (n := 20) dX2_findRests_17 rfl ?_
  refine R_iconst (v := nI 0) (n := 21) dX2_findRests_20 rfl rfl ?_
  refine R_istore (n := 23) dX2_findRests_21 rfl (Nat.le_of_ble_eq_true rfl) (Nat.le_of_ble_eq_true rfl) ?_
  have loopA : ∀ (f a : Nat) (q : Int32 × Int32) (μ1 : Mem) (j6 : Option Value), a + f = 4 → μ1.1 122 2 = q.1 → μ1.1 122 5 = q.2 → Sme (fun i j => i = 122 ∧ 2 ≤ j) μ' μ1 → rsA (fun a b => restL (ls1 C S one other k) (ls2 C S one other k) a b 4 0) f a q = R → V G l RX2 cX2_findRests 7 6 false none (fun r μ' => r = none ∧ μ'.1 122 2 = R.1 ∧ μ'.1 122 5 = R.2 ∧ Sme Prs μ μ') 23 [some (.ref (G.2.2.1 122)), some (.ref (G.2.2.1 3)), some (.int (nI one)), some (.int (nI other)), some (.int (nI k)), some (.int (nI a)), j6] [] μ1 := by
    intro f
    induction f with
    | zero =>
      intro a q μ1 j6 b1 b2 b3 b4 b5
      refine R_iload (n := 25) dX2_findRests_23 rfl rfl ?_
      refine R_iconst (v := nI 4) (n := 26) dX2_findRests_25 rfl rfl ?_
      refine R_icmp_ge_t (tgt := 97) dX2_findRests_26 rfl (by rw [nI_leI (by omega) (by omega)]; omega) ?_
      rw [← b5]
      refine R_ret dX2_findRests_97 rfl (⟨rfl, b2, b3, hS0 _ b4⟩)
    | succ f ihA =>
      intro a q μ1 j6 b1 b2 b3 b4 b5
      rw [rsA] at b5
      refine R_iload (n := 25) dX2_findRests_23 rfl rfl ?_
      refine R_iconst (v := nI 4) (n := 26) dX2_findRests_25 rfl rfl ?_
      refine R_icmp_ge_f (n := 29) dX2_findRests_26 rfl rfl (by rw [nI_leI (by omega) (by omega)]; omega) ?_
      refine R_iconst (v := nI 0) (n := 30) dX2_findRests_29 rfl rfl ?_
      refine R_istore (n := 32) dX2_findRests_30 rfl (Nat.le_of_ble_eq_true rfl) (Nat.le_of_ble_eq_true rfl) ?_
      have loopB : ∀ (f' b : Nat) (q' : Int32 × Int32) (μ1 : Mem), b + f' = 4 → μ1.1 122 2 = q'.1 → μ1.1 122 5 = q'.2 → Sme (fun i j => i = 122 ∧ 2 ≤ j) μ' μ1 → rsB (fun a b => restL (ls1 C S one other k) (ls2 C S one other k) a b 4 0) a 4 0 q = rsB (fun a b => restL (ls1 C S one other k) (ls2 C S one other k) a b 4 0) a f' b q' → V G l RX2 cX2_findRests 7 6 false none (fun r μ' => r = none ∧ μ'.1 122 2 = R.1 ∧ μ'.1 122 5 = R.2 ∧ Sme Prs μ μ') 32 [some (.ref (G.2.2.1 122)), some (.ref (G.2.2.1 3)), some (.int (nI one)), some (.int (nI other)), some (.int (nI k)), some (.int (nI a)), some (.int (nI b))] [] μ1 := by
        intro f'
        induction f' with
        | zero =>
          intro b q' μ1 d1 d2 d3 d4 d5
          rw [d5] at b5
          refine R_iload (n := 34) dX2_findRests_32 rfl rfl ?_
          refine R_iconst (v := nI 4) (n := 35) dX2_findRests_34 rfl rfl ?_
          refine R_icmp_ge_t (tgt := 91) dX2_findRests_35 rfl (by rw [nI_leI (by omega) (by omega)]; omega) ?_
          refine R_iinc (n := 94) dX2_findRests_91 rfl rfl (nI_1 _) (Nat.le_of_ble_eq_true rfl) ?_
          refine R_goto (tgt := 23) dX2_findRests_94 rfl ?_
          exact ihA (a + 1) q' μ1 _ (by omega) d2 d3 d4 b5
        | succ f' ihB =>
          intro b q' μ1 d1 d2 d3 d4 d5
          generalize rsB (fun a b => restL (ls1 C S one other k) (ls2 C S one other k) a b 4 0) a 4 0 q = X at d5 b5 ihB
          rw [rsB] at d5
          refine R_iload (n := 34) dX2_findRests_32 rfl rfl ?_
          refine R_iconst (v := nI 4) (n := 35) dX2_findRests_34 rfl rfl ?_
          refine R_icmp_ge_f (n := 38) dX2_findRests_35 rfl rfl (by rw [nI_leI (by omega) (by omega)]; omega) ?_
          refine R_aload_n (n := 39) dX2_findRests_38 rfl rfl ?_
          refine R_iload (n := 41) dX2_findRests_39 rfl rfl ?_
          refine R_iload (n := 43) dX2_findRests_41 rfl rfl ?_
          refine iv_X2_69 (n := 46) (ct_X2_isAtRest (hL _ d4) (by omega) (by omega)) (by decide) dX2_findRests_43 rfl (Nat.le_of_ble_eq_true rfl) (fun r μ' hq => ?_)
          obtain ⟨rfl, hq⟩ := hq
          have hq := hq.symm
          subst hq
          cases hr : restL (ls1 C S one other k) (ls2 C S one other k) a b 4 0 with
          | false =>
            rw [hr, if_neg (by decide)] at d5
            refine R_if_eq_t (tgt := 85) dX2_findRests_46 rfl (by decide) ?_
            refine R_iinc (n := 88) dX2_findRests_85 rfl rfl (nI_1 _) (Nat.le_of_ble_eq_true rfl) ?_
            refine R_goto (tgt := 32) dX2_findRests_88 rfl ?_
            exact ihB (b + 1) q' μ1 (by omega) d2 d3 d4 d5
          | true =>
            rw [hr, if_pos rfl] at d5
            refine R_if_eq_f (n := 49) dX2_findRests_46 rfl rfl (by decide) ?_
            refine R_aload_n (n := 50) dX2_findRests_49 rfl rfl ?_
            refine R_aload_n (n := 51) dX2_findRests_50 rfl rfl ?_
            refine ge_X2_24 (n := 54) dX2_findRests_51 rfl (by first | exact d2 | (rw [sti_1_pf _ _ _ _ _ _ (by omega)]; exact d2) | (rw [sti_1_pf _ _ _ _ _ _ (by omega), sti_1_pf _ _ _ _ _ _ (by omega)]; exact d2) | (rw [sti_1_pf _ _ _ _ _ _ (by omega), sti_1_pf _ _ _ _ _ _ (by omega), sti_1_pf _ _ _ _ _ _ (by omega)]; exact d2) | (rw [sti_1_pf _ _ _ _ _ _ (by omega), sti_1_pf _ _ _ _ _ _ (by omega), sti_1_pf _ _ _ _ _ _ (by omega), sti_1_pf _ _ _ _ _ _ (by omega)]; exact d2) | (rw [sti_1_pf _ _ _ _ _ _ (by omega), sti_1_pf _ _ _ _ _ _ (by omega), sti_1_pf _ _ _ _ _ _ (by omega), sti_1_pf _ _ _ _ _ _ (by omega), sti_1_pf _ _ _ _ _ _ (by omega)]; exact d2)) ?_
            by_cases hz : q'.1 = 0
            · rw [if_pos hz] at d5
              refine R_if_ne_f (n := 57) dX2_findRests_54 rfl rfl (hz) ?_
              refine R_bipush (v := nI 10) (n := 59) dX2_findRests_57 rfl rfl ?_
              refine R_iload (n := 61) dX2_findRests_59 rfl rfl ?_
              refine R_imul_n (n := 62) dX2_findRests_61 rfl ?_
              refine R_iload (n := 64) dX2_findRests_62 rfl rfl ?_
              refine R_iadd_n (n := 65) dX2_findRests_64 rfl ?_
              refine R_goto (tgt := 72) dX2_findRests_65 rfl ?_
              refine pf_X2_66 (n := 75) dX2_findRests_72 rfl ?_
              refine R_aload_n (n := 76) dX2_findRests_75 rfl rfl ?_
              refine R_dup (n := 77) dX2_findRests_76 rfl rfl ?_
              refine ge_X2_24 (n := 80) dX2_findRests_77 rfl (by first | exact d2 | (rw [sti_1_pf _ _ _ _ _ _ (by omega)]; exact d2) | (rw [sti_1_pf _ _ _ _ _ _ (by omega), sti_1_pf _ _ _ _ _ _ (by omega)]; exact d2) | (rw [sti_1_pf _ _ _ _ _ _ (by omega), sti_1_pf _ _ _ _ _ _ (by omega), sti_1_pf _ _ _ _ _ _ (by omega)]; exact d2) | (rw [sti_1_pf _ _ _ _ _ _ (by omega), sti_1_pf _ _ _ _ _ _ (by omega), sti_1_pf _ _ _ _ _ _ (by omega), sti_1_pf _ _ _ _ _ _ (by omega)]; exact d2) | (rw [sti_1_pf _ _ _ _ _ _ (by omega), sti_1_pf _ _ _ _ _ _ (by omega), sti_1_pf _ _ _ _ _ _ (by omega), sti_1_pf _ _ _ _ _ _ (by omega), sti_1_pf _ _ _ _ _ _ (by omega)]; exact d2)) ?_
              refine R_iconst (v := nI 1) (n := 81) dX2_findRests_80 rfl rfl ?_
              refine R_iadd (n := 82) dX2_findRests_81 rfl ?_
              refine pf_X2_24 (n := 85) dX2_findRests_82 rfl ?_
              refine R_iinc (n := 88) dX2_findRests_85 rfl rfl (nI_1 _) (Nat.le_of_ble_eq_true rfl) ?_
              refine R_goto (tgt := 32) dX2_findRests_88 rfl ?_
              refine ihB (b + 1) _ _ (by omega) ?_ ?_ ((d4.sti ⟨rfl, by omega⟩).sti ⟨rfl, by omega⟩) d5
              · rw [sti_1_eq]
              · rw [sti_1_pf _ _ _ _ _ _ (by omega), sti_1_eq]
            · rw [if_neg hz] at d5
              refine R_if_ne_t (tgt := 68) dX2_findRests_54 rfl (hz) ?_
              refine R_aload_n (n := 69) dX2_findRests_68 rfl rfl ?_
              refine ge_X2_66 (n := 72) dX2_findRests_69 rfl (by first | exact d3 | (rw [sti_1_pf _ _ _ _ _ _ (by omega)]; exact d3) | (rw [sti_1_pf _ _ _ _ _ _ (by omega), sti_1_pf _ _ _ _ _ _ (by omega)]; exact d3) | (rw [sti_1_pf _ _ _ _ _ _ (by omega), sti_1_pf _ _ _ _ _ _ (by omega), sti_1_pf _ _ _ _ _ _ (by omega)]; exact d3) | (rw [sti_1_pf _ _ _ _ _ _ (by omega), sti_1_pf _ _ _ _ _ _ (by omega), sti_1_pf _ _ _ _ _ _ (by omega), sti_1_pf _ _ _ _ _ _ (by omega)]; exact d3) | (rw [sti_1_pf _ _ _ _ _ _ (by omega), sti_1_pf _ _ _ _ _ _ (by omega), sti_1_pf _ _ _ _ _ _ (by omega), sti_1_pf _ _ _ _ _ _ (by omega), sti_1_pf _ _ _ _ _ _ (by omega)]; exact d3)) ?_
              refine pf_X2_66 (n := 75) dX2_findRests_72 rfl ?_
              refine R_aload_n (n := 76) dX2_findRests_75 rfl rfl ?_
              refine R_dup (n := 77) dX2_findRests_76 rfl rfl ?_
              refine ge_X2_24 (n := 80) dX2_findRests_77 rfl (by first | exact d2 | (rw [sti_1_pf _ _ _ _ _ _ (by omega)]; exact d2) | (rw [sti_1_pf _ _ _ _ _ _ (by omega), sti_1_pf _ _ _ _ _ _ (by omega)]; exact d2) | (rw [sti_1_pf _ _ _ _ _ _ (by omega), sti_1_pf _ _ _ _ _ _ (by omega), sti_1_pf _ _ _ _ _ _ (by omega)]; exact d2) | (rw [sti_1_pf _ _ _ _ _ _ (by omega), sti_1_pf _ _ _ _ _ _ (by omega), sti_1_pf _ _ _ _ _ _ (by omega), sti_1_pf _ _ _ _ _ _ (by omega)]; exact d2) | (rw [sti_1_pf _ _ _ _ _ _ (by omega), sti_1_pf _ _ _ _ _ _ (by omega), sti_1_pf _ _ _ _ _ _ (by omega), sti_1_pf _ _ _ _ _ _ (by omega), sti_1_pf _ _ _ _ _ _ (by omega)]; exact d2)) ?_
              refine R_iconst (v := nI 1) (n := 81) dX2_findRests_80 rfl rfl ?_
              refine R_iadd (n := 82) dX2_findRests_81 rfl ?_
              refine pf_X2_24 (n := 85) dX2_findRests_82 rfl ?_
              refine R_iinc (n := 88) dX2_findRests_85 rfl rfl (nI_1 _) (Nat.le_of_ble_eq_true rfl) ?_
              refine R_goto (tgt := 32) dX2_findRests_88 rfl ?_
              refine ihB (b + 1) _ _ (by omega) ?_ ?_ ((d4.sti ⟨rfl, by omega⟩).sti ⟨rfl, by omega⟩) d5
              · rw [sti_1_eq]
              · rw [sti_1_pf _ _ _ _ _ _ (by omega), sti_1_eq]
      exact loopB 4 0 q μ1 (by omega) b2 b3 b4 rfl
  refine loopA 4 0 (nI 0, -9) _ _ (by omega) ?_ ?_ (((Sme.rf _ _).sti ⟨rfl, by omega⟩).sti ⟨rfl, by omega⟩) hR
  · rw [sti_1_pf _ _ _ _ _ _ (by omega), sti_1_eq]
  · rw [sti_1_eq]
end GU

