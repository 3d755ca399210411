/-! pure: alike states go alike; the search of two gifts; the flat search of rests -/
def Eqv (C : CF) (S T : ST) : Prop := sRow S = sRow T ∧ sHrs S = sHrs T ∧ sPsd S = sPsd T ∧ sLaw S = sLaw T ∧ ∀ k j, sPsd S ≤ k → k < C.2.1 → j < C.1 → sGvn S (6 * k + j) = sGvn T (6 * k + j)
theorem goL_g {len wt : Nat → Int32} {law : Nat} {g g' : Nat → Int32} {z n : Nat} (hg : ∀ j, j < n → g j = g' j) : ∀ (f p : Nat) (hour : Int32) (row : Nat → Nat) (hrs w : Nat → Int32), (∀ q, q < z → row q < n) → goL len wt law g z f p hour row hrs w = goL len wt law g' z f p hour row hrs w := by
  intro f
  induction f with
  | zero => intro p hour row hrs w h; rfl
  | succ f ih =>
    intro p hour row hrs w h
    by_cases hp : p < z
    · cases ht : twoF len row z p with
      | true =>
        have hp1 : p + 1 < z := by
          rw [twoF, Bool.and_eq_true] at ht
          exact of_decide_eq_true ht.1
        rw [goL_two hp ht, goL_two hp ht, swF_congr (hg _ (h p hp)) (hg _ (h _ hp1))]
        apply ih
        split
        · exact swp_lt hp1 h
        · exact h
      | false =>
        rw [goL_one hp ht, goL_one hp ht]
        exact ih _ _ _ _ _ h
    · rw [goL_end hp, goL_end hp]
theorem pass1_eqv {C : CF} {S T : ST} (hO : Ok C C.1 S) (hp : sPsd S < C.2.1) (h : Eqv C S T) : Eqv C (pass1 C C.1 S) (pass1 C C.1 T) := by
  obtain ⟨h1, h2, h3, h4, h5⟩ := h
  have e : goS C C.1 S = goS C C.1 T := by
    unfold goS
    rw [← h1, ← h2, ← h3, ← h4]
    exact goL_g (n := C.1) (fun j hj => h5 _ j (Nat.le_refl _) hp hj) _ _ _ _ _ _ hO.2.2.2.1
  refine ⟨?_, ?_, ?_, h4, fun k j hk hk2 hj => ?_⟩
  · show (goS C C.1 S).1 = (goS C C.1 T).1
    rw [e]
  · show (goS C C.1 S).2.1 = (goS C C.1 T).2.1
    rw [e]
  · rw [sPsd_pass1, sPsd_pass1, h3]
  · rw [sPsd_pass1] at hk
    exact h5 k j (by omega) hk2 hj
theorem gos_eqv {C : CF} : ∀ (k : Nat) (S T : ST), Ok C C.1 S → sPsd S + k ≤ C.2.1 → Eqv C S T → Eqv C (gos C C.1 k S) (gos C C.1 k T)
  | 0, _, _, _, _, h => h
  | k + 1, S, T, hO, hk, h => gos_eqv k _ _ (ok_pass1 hO (by omega)) (by rw [sPsd_pass1]; omega) (pass1_eqv hO (by omega) h)
theorem bas_eqv {C : CF} {S T : ST} (hO : Ok C C.1 S) (h : Eqv C S T) : sRow (bas C S) = sRow (bas C T) := by
  unfold bas
  rw [← h.2.2.1]
  exact (gos_eqv _ S T hO (by have := hO.2.2.2.2.2; omega) h).1
theorem suF_eqv {C : CF} {S T : ST} {a b : Nat} (hO : Ok C C.1 S) (h : Eqv C S T) : suF C S a b = suF C T a b := by
  rw [suF, suF, bas_eqv hO h]
/-! searches -/
theorem srch_some {p : Nat → Bool} : ∀ (f k r : Nat), srch p f k = some r → (k ≤ r ∧ r < k + f) ∧ p r = true ∧ ∀ j, k ≤ j → j < r → p j = false
  | 0, _, _, h => by cases h
  | f + 1, k, r, h => by
    rw [srch] at h
    cases e : p k with
    | true =>
      rw [e, if_pos rfl] at h
      cases h
      exact ⟨⟨Nat.le_refl _, by omega⟩, e, fun j h1 h2 => by omega⟩
    | false =>
      rw [e, if_neg (by decide)] at h
      obtain ⟨h1, h2, h3⟩ := srch_some f (k + 1) r h
      refine ⟨⟨by omega, by omega⟩, h2, fun j hj hr => ?_⟩
      by_cases q : j = k
      · rw [q]; exact e
      · exact h3 j (by omega) hr
theorem srch_none {p : Nat → Bool} : ∀ (f k : Nat), srch p f k = none → ∀ j, k ≤ j → j < k + f → p j = false
  | 0, _, _ => fun j h1 h2 => by omega
  | f + 1, k, h => fun j hj hr => by
    rw [srch] at h
    cases e : p k with
    | true => rw [e, if_pos rfl] at h; cases h
    | false =>
      rw [e, if_neg (by decide)] at h
      by_cases q : j = k
      · rw [q]; exact e
      · exact srch_none f (k + 1) h j (by omega) (by omega)
/-- a search is told by what it finds -/
theorem srch_eq {p : Nat → Bool} {f k : Nat} {o : Option Nat} (h1 : ∀ r, o = some r → (k ≤ r ∧ r < k + f) ∧ p r = true ∧ ∀ j, k ≤ j → j < r → p j = false) (h2 : o = none → ∀ j, k ≤ j → j < k + f → p j = false) : srch p f k = o := by
  cases o with
  | none =>
    cases e : srch p f k with
    | none => rfl
    | some r =>
      obtain ⟨a1, a2, a3⟩ := srch_some _ _ _ e
      have := h2 rfl r a1.1 a1.2
      rw [a2] at this; cases this
  | some r =>
    obtain ⟨b1, b2, b3⟩ := h1 r rfl
    cases e : srch p f k with
    | none =>
      have := srch_none _ _ e r b1.1 b1.2
      rw [b2] at this; cases this
    | some r' =>
      obtain ⟨a1, a2, a3⟩ := srch_some _ _ _ e
      by_cases q : r' < r
      · have := b3 r' a1.1 q
        rw [a2] at this; cases this
      · by_cases q2 : r < r'
        · have := a3 r b1.1 q2
          rw [b2] at this; cases this
        · rw [show r' = r by omega]
theorem srch2_some {c : Nat → Bool} {q : Nat → Nat → Bool} : ∀ (f g r : Nat), g + f = 60 → srch2 c q f g = some r → ∃ a b, r = 10000 + 100 * a + b ∧ g ≤ a ∧ a ≤ b ∧ b < 60 ∧ c a = true ∧ q a b = true ∧ (∀ b', a ≤ b' → b' < b → q a b' = false) ∧ ∀ a', g ≤ a' → a' < a → c a' = true → ∀ b', a' ≤ b' → b' < 60 → q a' b' = false
  | 0, _, _, _, h => by cases h
  | f + 1, g, r, hg, h => by
    rw [srch2] at h
    cases e : (if c g = true then srch (q g) (60 - g) g else none) with
    | some x =>
      rw [e] at h
      cases h
      cases ec : c g with
      | false => rw [ec, if_neg (by decide)] at e; cases e
      | true =>
        rw [ec, if_pos rfl] at e
        obtain ⟨a1, a2, a3⟩ := srch_some _ _ _ e
        exact ⟨g, x, rfl, Nat.le_refl _, a1.1, by omega, ec, a2, a3, fun a' h1 h2 => by omega⟩
    | none =>
      rw [e] at h
      obtain ⟨a, b, h1, h2, h3, h4, h5, h6, h7, h8⟩ := srch2_some f (g + 1) r (by omega) h
      refine ⟨a, b, h1, by omega, h3, h4, h5, h6, h7, fun a' z1 z2 z3 b' z4 z5 => ?_⟩
      by_cases q1 : a' = g
      · subst q1
        rw [z3, if_pos rfl] at e
        exact srch_none _ _ e b' z4 (by omega)
      · exact h8 a' (by omega) z2 z3 b' z4 z5
theorem srch2_none {c : Nat → Bool} {q : Nat → Nat → Bool} : ∀ (f g : Nat), g + f = 60 → srch2 c q f g = none → ∀ a, g ≤ a → a < 60 → c a = true → ∀ b, a ≤ b → b < 60 → q a b = false
  | 0, _, _, _ => fun a h1 h2 => by omega
  | f + 1, g, hg, h => fun a z1 z2 z3 b z4 z5 => by
    rw [srch2] at h
    cases e : (if c g = true then srch (q g) (60 - g) g else none) with
    | some x => rw [e] at h; cases h
    | none =>
      rw [e] at h
      by_cases q1 : a = g
      · subst q1
        rw [z3, if_pos rfl] at e
        exact srch_none _ _ e b z4 (by omega)
      · exact srch2_none f (g + 1) (by omega) h a (by omega) z2 z3 b z4 z5
/-! gifts -/
def wonF (C : CF) (S : ST) (one other g h : Nat) : Bool := canB C S g h && suF C (addG (addG S g) h) one other
theorem canG_60 {C : CF} {S : ST} {g : Nat} (hC : C.1 ≤ 6) (h : canG C S g = true) : g < 60 := by
  have := (canG_lt h).1
  omega
theorem canB_sym (C : CF) (S : ST) (g h : Nat) : canB C S g h = canB C S h g := by
  unfold canB
  by_cases e : g / 10 = h / 10
  · rw [e]
    cases canG C S g <;> cases canG C S h <;> rfl
  · rw [decide_eq_false e, decide_eq_false (p := h / 10 = g / 10) (fun z => e z.symm)]
    cases canG C S g <;> cases canG C S h <;> rfl
theorem addE_comm (S : ST) (a b : Nat) (x : Int32) : addE (addE S a x) b x = addE (addE S b x) a x := by
  have : (fun i => if i = b then (if i = a then sGvn S i + x else sGvn S i) + x else (if i = a then sGvn S i + x else sGvn S i)) = (fun i => if i = a then (if i = b then sGvn S i + x else sGvn S i) + x else (if i = b then sGvn S i + x else sGvn S i)) := by
    funext i
    by_cases e1 : i = a
    · by_cases e2 : i = b
      · simp only [if_pos e1, if_pos e2]
      · simp only [if_pos e1, if_neg e2]
    · by_cases e2 : i = b
      · simp only [if_neg e1, if_pos e2]
      · simp only [if_neg e1, if_neg e2]
  show mkS _ _ _ _ (fun i => if i = b then (if i = a then sGvn S i + x else sGvn S i) + x else (if i = a then sGvn S i + x else sGvn S i)) _ = mkS _ _ _ _ (fun i => if i = a then (if i = b then sGvn S i + x else sGvn S i) + x else (if i = b then sGvn S i + x else sGvn S i)) _
  rw [this]
  rfl
theorem wonF_sym (C : CF) (S : ST) (a b g h : Nat) : wonF C S a b g h = wonF C S a b h g := by
  rw [wonF, wonF, canB_sym, show addG (addG S g) h = addG (addG S h) g from addE_comm S _ _ _]
theorem wonF_c {C : CF} {S : ST} {a b g h : Nat} (e : wonF C S a b g h = true) : canG C S g = true ∧ canG C S h = true := by
  rw [wonF, canB, Bool.and_eq_true, Bool.and_eq_true, Bool.and_eq_true] at e
  exact ⟨e.1.1, e.1.2.1⟩
theorem srch2_tea {C : CF} {S : ST} {one other N : Nat} (hN : N = 10000) (hC : C.1 ≤ 6) : srch2 (canG C S) (fun g h => canB C S g h && suF C (addG (addG S g) h) one other) 60 0 = (srch (fun i => wonF C S one other (i / 100) (i % 100)) N 0).map (fun i => N + i) := by
  have key : srch (fun i => wonF C S one other (i / 100) (i % 100)) N 0 = (srch2 (canG C S) (wonF C S one other) 60 0).map (fun r => r - N) := by
    cases e : srch2 (canG C S) (wonF C S one other) 60 0 with
    | none =>
      refine srch_eq (fun r h => by cases h) (fun _ i _ hi => ?_)
      cases ew : wonF C S one other (i / 100) (i % 100) with
      | false => rfl
      | true =>
        exfalso
        obtain ⟨c1, c2⟩ := wonF_c ew
        have l1 := canG_60 hC c1
        have l2 := canG_60 hC c2
        by_cases q : i / 100 ≤ i % 100
        · have := srch2_none 60 0 rfl e _ (Nat.zero_le _) l1 c1 _ q l2
          rw [this] at ew; cases ew
        · have := srch2_none 60 0 rfl e _ (Nat.zero_le _) l2 c2 _ (Nat.le_of_lt (Nat.lt_of_not_le q)) l1
          rw [wonF_sym, this] at ew; cases ew
    | some r =>
      obtain ⟨a, b, h1, h2, h3, h4, h5, h6, h7, h8⟩ := srch2_some 60 0 r rfl e
      refine srch_eq (fun r' hr' => ?_) (fun z => by cases z)
      have hr2 : r' = 100 * a + b := by
        have : r - N = r' := Option.some.inj hr'
        omega
      subst hr2
      have d1 : (100 * a + b) / 100 = a := by omega
      have d2 : (100 * a + b) % 100 = b := by omega
      refine ⟨⟨Nat.zero_le _, by omega⟩, by rw [d1, d2]; exact h6, fun j _ hj => ?_⟩
      cases ew : wonF C S one other (j / 100) (j % 100) with
      | false => rfl
      | true =>
        exfalso
        obtain ⟨c1, c2⟩ := wonF_c ew
        have l1 := canG_60 hC c1
        have l2 := canG_60 hC c2
        by_cases q : j / 100 ≤ j % 100
        · by_cases q2 : j / 100 = a
          · have := h7 (j % 100) (by omega) (by omega)
            rw [q2, this] at ew; cases ew
          · have := h8 (j / 100) (Nat.zero_le _) (by omega) c1 _ q l2
            rw [this] at ew; cases ew
        · have := h8 (j % 100) (Nat.zero_le _) (by omega) c2 _ (Nat.le_of_lt (Nat.lt_of_not_le q)) l1
          rw [wonF_sym, this] at ew; cases ew
  rw [key, Option.map_map]
  show srch2 (canG C S) (wonF C S one other) 60 0 = _
  cases e : srch2 (canG C S) (wonF C S one other) 60 0 with
  | none => rfl
  | some r =>
    obtain ⟨a, b, h1, -⟩ := srch2_some 60 0 r rfl e
    show some r = some (N + (r - N))
    rw [show N + (r - N) = r by omega]
theorem srch_tea {C : CF} {S : ST} {one other : Nat} (hC : C.1 ≤ 6) : srch (fun g => canG C S g && suF C (addG S g) one other) 60 0 = srch (fun g => canG C S g && suF C (addG S g) one other) 100 0 := by
  refine srch_eq (fun r h => ?_) (fun h j _ hj => srch_none _ _ h j (Nat.zero_le _) (by omega))
  obtain ⟨h1, h2, h3⟩ := srch_some _ _ _ h
  refine ⟨⟨Nat.zero_le _, ?_⟩, h2, h3⟩
  rw [Bool.and_eq_true] at h2
  have := canG_60 hC h2.1
  omega
theorem givB_can (C : CF) (S : ST) (g : Nat) : givB C S (sPsd S) (g / 10) (g % 10) = canG C S g := by
  rw [givB, canG]
  cases decide (0 < sTea S (g / 10)) <;> cases decide (g % 10 < sPsd S) <;> rfl
theorem giv_eqv (C : CF) (S T : ST) (b k : Nat) (h : Eqv C S T) : Eqv C (givS S b k) (addE T (k * 6 + b) (nI 1)) := by
  obtain ⟨h1, h2, h3, h4, h5⟩ := h
  refine ⟨h1, h2, h3, h4, fun q j hq hq2 hj => ?_⟩
  show (if 6 * q + j = k * 6 + b then sGvn S (6 * q + j) + nI 1 else sGvn S (6 * q + j)) = if 6 * q + j = k * 6 + b then sGvn T (6 * q + j) + nI 1 else sGvn T (6 * q + j)
  rw [h5 q j hq hq2 hj]
theorem Eqv.rf (C : CF) (S : ST) : Eqv C S S := ⟨rfl, rfl, rfl, rfl, fun _ _ _ _ _ => rfl⟩
theorem givB_two {C : CF} {S : ST} {g h : Nat} (hg : canG C S g = true) : givB C (givS S (g / 10) (g % 10)) (sPsd S) (h / 10) (h % 10) = canB C S g h := by
  rw [canB, hg, Bool.true_and, canG]
  show (decide (h / 10 < C.1) && (decide (h % 10 < C.2.1) && (decide (0 < updN (sTea S) (g / 10) (sTea S (g / 10) - 1) (h / 10)) && !decide (h % 10 < sPsd S)))) = _
  have t := (canG_lt hg).2.2.2
  unfold updN
  by_cases e : h / 10 = g / 10
  · rw [if_pos e, e, decide_eq_true (p := g / 10 = g / 10) rfl, decide_eq_true t]
    by_cases e2 : 1 < sTea S (g / 10)
    · rw [decide_eq_true e2, decide_eq_true (p := 0 < sTea S (g / 10) - 1) (by omega)]
      cases decide (g / 10 < C.1) <;> cases decide (h % 10 < C.2.1) <;> cases decide (h % 10 < sPsd S) <;> rfl
    · rw [decide_eq_false e2, decide_eq_false (p := 0 < sTea S (g / 10) - 1) (by omega)]
      cases decide (g / 10 < C.1) <;> cases decide (h % 10 < C.2.1) <;> cases decide (h % 10 < sPsd S) <;> rfl
  · rw [if_neg e, decide_eq_false (p := g / 10 = h / 10) (fun z => e z.symm)]
    cases decide (h / 10 < C.1) <;> cases decide (h % 10 < C.2.1) <;> cases decide (h % 10 < sPsd S) <;> cases decide (0 < sTea S (h / 10)) <;> rfl
/-! rests, flat -/
def rsS (p : Nat → Nat → Bool) (a b : Nat) (q : Int32 × Int32) : Int32 × Int32 := if p a b = true then (q.1 + nI 1, if q.1 = 0 then nI (10 * a + b) else q.2) else q
def rsF (p : Nat → Nat → Bool) : Nat → Nat → Int32 × Int32 → Int32 × Int32
  | 0, _, q => q
  | f + 1, e, q => rsF p f (e + 1) (rsS p (e / 4) (e % 4) q)
theorem rsF_4 (p : Nat → Nat → Bool) (f a : Nat) (q : Int32 × Int32) : rsF p (f + 4) (4 * a) q = rsF p f (4 * (a + 1)) (rsB p a 4 0 q) := by
  rw [rsF, rsF, rsF, rsF, show 4 * a / 4 = a by omega, show 4 * a % 4 = 0 by omega, show (4 * a + 1) / 4 = a by omega, show (4 * a + 1) % 4 = 1 by omega, show (4 * a + 1 + 1) / 4 = a by omega, show (4 * a + 1 + 1) % 4 = 2 by omega, show (4 * a + 1 + 1 + 1) / 4 = a by omega, show (4 * a + 1 + 1 + 1) % 4 = 3 by omega]
  rfl
theorem rsF_16 (p : Nat → Nat → Bool) (q : Int32 × Int32) : rsF p 16 0 q = rsA p 4 0 q := by
  rw [show rsF p 16 0 q = rsF p (12 + 4) (4 * 0) q from rfl, rsF_4, rsF_4 p 8, rsF_4 p 4, rsF_4 p 0]
  rfl
/-! days -/
def agM (C : CF) (S : ST) (s : Nat) : ST := mkS (sRow S) (sHrs S) (sTea S) (sLaw S) (fun e => if e < 6 * C.2.1 then sGvn S e + nI (if sPsd S ≤ e / 6 ∧ tb s (e % 6) = 1 then 1 else 0) else sGvn S e) (sPsd S)
theorem addBits_gvn (S : ST) (k s : Nat) : ∀ (n e : Nat), n ≤ 6 → sGvn (addBits S k s n) e = if k * 6 ≤ e ∧ e < k * 6 + n then sGvn S e + nI (tb s (e - k * 6)) else sGvn S e
  | 0, e, _ => by rw [if_neg (by omega)]; rfl
  | n + 1, e, hn => by
    show (if e = k * 6 + n then sGvn (addBits S k s n) e + nI (tb s n) else sGvn (addBits S k s n) e) = _
    rw [addBits_gvn S k s n e (by omega)]
    by_cases q : e = k * 6 + n
    · rw [if_pos q, if_neg (by omega), if_pos (by omega), show e - k * 6 = n by omega]
    · rw [if_neg q]
      by_cases q2 : k * 6 ≤ e ∧ e < k * 6 + n
      · rw [if_pos q2, if_pos (by omega)]
      · rw [if_neg q2, if_neg (by omega)]
theorem agL_gvn (C : CF) (s : Nat) (hC : C.1 ≤ 6) : ∀ (f k : Nat) (S : ST) (q j : Nat), j < C.1 → sGvn (agL C s f k S) (6 * q + j) = if k ≤ q ∧ q < k + f then sGvn S (6 * q + j) + nI (tb s j) else sGvn S (6 * q + j)
  | 0, k, S, q, j, _ => by rw [if_neg (by omega)]; rfl
  | f + 1, k, S, q, j, hj => by
    rw [agL, agL_gvn C s hC f (k + 1) _ q j hj, addBits_gvn S k s C.1 _ hC]
    by_cases e : q = k
    · rw [if_neg (by omega), if_pos (by omega), if_pos (by omega), show 6 * q + j - k * 6 = j by omega]
    · rw [if_neg (show ¬ (k * 6 ≤ 6 * q + j ∧ 6 * q + j < k * 6 + C.1) by omega)]
      by_cases e2 : k ≤ q ∧ q < k + (f + 1)
      · rw [if_pos (by omega), if_pos e2]
      · rw [if_neg (by omega), if_neg e2]
theorem agL_eq2 (C : CF) (s : Nat) : ∀ f k S, sRow (agL C s f k S) = sRow S ∧ sHrs (agL C s f k S) = sHrs S ∧ sPsd (agL C s f k S) = sPsd S ∧ sLaw (agL C s f k S) = sLaw S
  | 0, _, _ => ⟨rfl, rfl, rfl, rfl⟩
  | f + 1, k, S => by
    rw [agL]
    obtain ⟨h1, h2, h3, h4⟩ := agL_eq2 C s f (k + 1) (addBits S k s C.1)
    obtain ⟨a1, a2, a3, a4, a5⟩ := addBits_eq S k s C.1
    exact ⟨h1.trans a1, h2.trans a4, h3.trans a3, h4.trans a2⟩
theorem agM_eqv {C : CF} {S : ST} (s : Nat) (hO : Ok C C.1 S) : Eqv C (agM C S s) (agL C s (C.2.1 - sPsd S) (sPsd S) S) := by
  obtain ⟨h1, h2, h3, h4⟩ := agL_eq2 C s (C.2.1 - sPsd S) (sPsd S) S
  refine ⟨h1.symm, h2.symm, h3.symm, h4.symm, fun k j hk hk2 hj => ?_⟩
  have hC := hO.1
  have hp : sPsd S ≤ k := hk
  rw [agL_gvn C s hC _ _ _ _ _ hj, if_pos (by omega)]
  show (if 6 * k + j < 6 * C.2.1 then sGvn S (6 * k + j) + nI (if sPsd S ≤ (6 * k + j) / 6 ∧ tb s ((6 * k + j) % 6) = 1 then 1 else 0) else sGvn S (6 * k + j)) = _
  rw [if_pos (by omega), show (6 * k + j) / 6 = k by omega, show (6 * k + j) % 6 = j by omega]
  have := tb_le s j
  by_cases e : tb s j = 1
  · rw [if_pos ⟨hp, e⟩, e]
  · rw [if_neg (fun z => e z.2), show tb s j = 0 by omega]
theorem fgF_agM {C : CF} {S : ST} {v s : Nat} (hO : Ok C C.1 S) : fgF C S v s = decide (sRow (bas C (agM C S s)) 0 = v) := by
  have hO2 : Ok C C.1 (agM C S s) := hO
  rw [fgF, bas_eqv hO2 (agM_eqv s hO)]

