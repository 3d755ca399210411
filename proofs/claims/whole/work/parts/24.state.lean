/-! THE WHOLE STATE, and what every call answers of it -/
abbrev GS : Type := CF × ST × (Nat → ST) × Nat × (Nat → Option ST) × (Nat → Nat) × Nat × Int64
def gC (σ : GS) : CF := σ.1
def gS (σ : GS) : ST := σ.2.1
def gH' (σ : GS) : Nat → ST := σ.2.2.1
def gA (σ : GS) : Nat := σ.2.2.2.1
def gK (σ : GS) : Nat → Option ST := σ.2.2.2.2.1
def gT (σ : GS) : Nat → Nat := σ.2.2.2.2.2.1
def gL (σ : GS) : Nat := σ.2.2.2.2.2.2.1
def gZ (σ : GS) : Int64 := σ.2.2.2.2.2.2.2
def mkG (C : CF) (S : ST) (h : Nat → ST) (a : Nat) (k : Nat → Option ST) (t : Nat → Nat) (n : Nat) (z : Int64) : GS := (C, S, h, a, k, t, n, z)
def Wf (C : CF) (S : ST) : Prop := Ok C C.1 S ∧ Pm C.1 (sRow S) ∧ ∀ j, j < C.1 → sTea S j ≤ 9
def WF (σ : GS) : Prop := Wf (gC σ) (gS σ) ∧ (∀ i, i < gA σ → Wf (gC σ) (gH' σ i)) ∧ ∀ s, s < 2 → ∀ T, gK σ s = some T → Wf (gC σ) T
def CI (μ : Mem) (σ : GS) : Prop := CTx μ (gT σ) (gL σ) ∧ CCf μ (gC σ) ∧ CSt μ 6 (gC σ).1 (gC σ) (gS σ) ∧ CAc μ (gC σ) (gH' σ) (gA σ) ∧ CSl μ (gC σ) (gK σ) ∧ μ.2 0 = gZ σ
/-- an act: what was before it is remembered -/
def act (σ : GS) (S' : ST) : GS := mkG (gC σ) S' (pushH (gS σ) (gH' σ)) (if gA σ < 14 then gA σ + 1 else 14) (gK σ) (gT σ) (gL σ) (gZ σ)
def setT (S : ST) (tea : Nat → Nat) : ST := mkS (sRow S) (sHrs S) tea (sLaw S) (sGvn S) (sPsd S)
/-! mutators: the answer, and the state behind it -/
def fWrite (σ : GS) (x : Int32) : Int32 × GS := if x < 0 ∨ nI 255 < x then (-2, σ) else if 40 ≤ gL σ then (-4, σ) else (nI (gL σ + 1), mkG (gC σ) (gS σ) (gH' σ) (gA σ) (gK σ) (fun k => if k = gL σ then x.toNatClampNeg else gT σ k) (gL σ + 1) (gZ σ))
def fWipe (σ : GS) : Int32 × GS := (nI (gL σ), mkG (gC σ) (gS σ) (gH' σ) (gA σ) (gK σ) (gT σ) 0 (gZ σ))
def fCanal (σ : GS) : Int32 × GS := match rdT (gT σ) (gL σ) with
  | (some _, _) => (-3, σ)
  | (none, A) => (nI (10 * A.1 + A.2.1), mkG (accCF A) (accST A) (gH' σ) 0 (fun _ => none) (gT σ) (gL σ) (gZ σ))
def fPass (σ : GS) : Int32 × GS := if sPsd (gS σ) = (gC σ).2.1 then (-3, σ) else (fig (sRow (pass1 (gC σ) (gC σ).1 (gS σ))) (gC σ).1, act σ (pass1 (gC σ) (gC σ).1 (gS σ)))
def fGive (σ : GS) (x y : Int32) : Int32 × GS := if (inR x (gC σ).1 && inR y (gC σ).2.1) = true then
    if sTea (gS σ) x.toNatClampNeg = 0 ∨ y.toNatClampNeg < sPsd (gS σ) then (-3, σ)
    else (sGvn (gS σ) (y.toNatClampNeg * 6 + x.toNatClampNeg) + nI 1, act σ (addE (setT (gS σ) (updN (sTea (gS σ)) x.toNatClampNeg (sTea (gS σ) x.toNatClampNeg - 1))) (y.toNatClampNeg * 6 + x.toNatClampNeg) (nI 1)))
  else (-1, σ)
def fLetBy (σ : GS) (x : Int32) : Int32 × GS := if inR x (gC σ).1 = true then
    if (gC σ).1 - 1 ≤ posF (sRow (gS σ)) x.toNatClampNeg (gC σ).1 then (-3, σ)
    else (nI (posF (sRow (gS σ)) x.toNatClampNeg (gC σ).1 + 1), act σ (rowS (gS σ) (swp (sRow (gS σ)) (posF (sRow (gS σ)) x.toNatClampNeg (gC σ).1))))
  else (-1, σ)
def fLearn (σ : GS) (x w : Int32) : Int32 × GS := if inR x (gC σ).2.1 = true then
    if w < 0 ∨ nI 3 < w then (-2, σ)
    else if x.toNatClampNeg < sPsd (gS σ) ∨ sLaw (gS σ) x.toNatClampNeg = w.toNatClampNeg then (-3, σ)
    else (nI (sLaw (gS σ) x.toNatClampNeg), act σ (setLaw (gS σ) x.toNatClampNeg w.toNatClampNeg))
  else (-1, σ)
def fUndo (σ : GS) : Int32 × GS := match gA σ with
  | 0 => (-3, σ)
  | a + 1 => (nI a, mkG (gC σ) (gH' σ 0) (fun i => gH' σ (i + 1)) a (gK σ) (gT σ) (gL σ) (gZ σ))
def fKeep (σ : GS) (x : Int32) : Int32 × GS := if inR x 2 = true then (nI (sPsd (gS σ)), mkG (gC σ) (gS σ) (gH' σ) (gA σ) (fun i => if i = x.toNatClampNeg then some (gS σ) else gK σ i) (gT σ) (gL σ) (gZ σ)) else (-1, σ)
def fAgain (σ : GS) (x : Int32) : Int32 × GS := if inR x 2 = true then
    match gK σ x.toNatClampNeg with
    | none => (-3, σ)
    | some T => (nI (sPsd T), mkG (gC σ) T (gH' σ) 0 (gK σ) (gT σ) (gL σ) (gZ σ))
  else (-1, σ)
def setZ (σ : GS) (z : Int64) : GS := mkG (gC σ) (gS σ) (gH' σ) (gA σ) (gK σ) (gT σ) (gL σ) z
def nxZ (z : Int64) : Int64 := z * 6364136223846793005 + 1442695040888963407
def stZ (z : Int64) : Nat := (z.toUInt64 >>> 33).toNat % 64
def dyL (C : CF) (S : ST) (v : Nat) : Nat → Int64 → Nat → Nat × Int64
  | 0, z, c => (c, z)
  | f + 1, z, c => dyL C S v f (nxZ z) (if fgF C S v (stZ (nxZ z)) = true then c + 1 else c)
def fDays (σ : GS) (x m : Int32) : Int32 × GS := if inR x (gC σ).1 = true then
    if m < nI 1 ∨ nI 30 < m then (-2, σ)
    else (nI (dyL (gC σ) (gS σ) x.toNatClampNeg m.toNatClampNeg (gZ σ) 0).1, setZ σ (dyL (gC σ) (gS σ) x.toNatClampNeg m.toNatClampNeg (gZ σ) 0).2)
  else (-1, σ)
/-! questions: the answer alone -/
def aFault (σ : GS) : Int32 := oI (rdT (gT σ) (gL σ)).1
def aBarge (σ : GS) (x w : Int32) : Int32 := if inR x (gC σ).1 = true then
    if w = nI 0 then (gC σ).2.2.1 x.toNatClampNeg else if w = nI 1 then (gC σ).2.2.2 x.toNatClampNeg else if w = nI 2 then nI (sTea (gS σ) x.toNatClampNeg)
    else if w = nI 3 then nI (posF (sRow (gS σ)) x.toNatClampNeg (gC σ).1) else if w = nI 4 then sHrs (gS σ) x.toNatClampNeg else -2
  else -1
def aLock (σ : GS) (x w : Int32) : Int32 := if inR x (gC σ).2.1 = true then
    if w = nI 0 then nI (sLaw (gS σ) x.toNatClampNeg) else if w = nI 1 then bi (decide (x.toNatClampNeg < sPsd (gS σ))) else if w = nI 2 then sm (fun j => sGvn (gS σ) (x.toNatClampNeg * 6 + j)) 6 else -2
  else -1
def gB (σ : GS) : ST := bas (gC σ) (gS σ)
def aBasin (σ : GS) : Int32 := fig (sRow (gB σ)) (gC σ).1
def aHour (σ : GS) (x : Int32) : Int32 := if inR x (gC σ).1 = true then sHrs (gB σ) x.toNatClampNeg else -1
def aGains (σ : GS) (x : Int32) : Int32 := if inR x (gC σ).1 = true then gnL (gC σ) x.toNatClampNeg ((gC σ).2.1 - sPsd (gS σ)) (gS σ) (nI 0) else -1
def aMates (σ : GS) (x : Int32) : Int32 := if inR x (gC σ).1 = true then mtsL (gC σ) x.toNatClampNeg ((gC σ).2.1 - sPsd (gS σ)) (gS σ) (nI 0) else -1
def ref2 (σ : GS) (x y : Int32) : Int32 := if (inR x (gC σ).1 && inR y (gC σ).1) = true then if x = y then -2 else nI 0 else -1
def aFirst (σ : GS) (x y : Int32) : Int32 := if ref2 σ x y = nI 0 then foL (gC σ) (gS σ) x.toNatClampNeg y.toNatClampNeg (fct (gC σ).1) 0 else ref2 σ x y
def hmL (t : Option Nat) : Int32 := match t with
  | none => -9
  | some m => if m < 100 then nI 0 else if m < 10000 then nI 1 else nI 2
def aTea (σ : GS) (x y : Int32) (row : Bool) : Int32 := if ref2 σ x y = nI 0 then (if row then oI (teaN (gC σ) (gS σ) x.toNatClampNeg y.toNatClampNeg) else hmL (teaN (gC σ) (gS σ) x.toNatClampNeg y.toNatClampNeg)) else ref2 σ x y
def aJudge (σ : GS) (x y : Int32) : Int32 := if x < nI 1 ∨ nI 6 < x ∨ y < 0 ∨ ¬ y.toNatClampNeg / 10 ^ x.toNatClampNeg = 0 then -2
  else oI (srch (fun p => !decide (p < (gC σ).1 ∧ nI (sRow (gB σ) p) = nI (dgt y.toNatClampNeg x.toNatClampNeg p) - nI 1)) x.toNatClampNeg 0)
def eucL : Nat → Int32 → Int32 → Int32
  | 0, x, _ => x
  | f + 1, x, y => if y = 0 then x else eucL f y (x - x / y * y)
def tfF (ab be : Int32) (up : Bool) : Int32 := if nI 1 < eucL 100 (if 0 ≤ ab then ab else 0 - ab) be then (if up then ab else be) / eucL 100 (if 0 ≤ ab then ab else 0 - ab) be else (if up then ab else be)
def aShare (σ : GS) (x : Int32) (up : Bool) : Int32 := if inR x (gC σ).1 = true then tfF (shrL (gC σ) (gS σ) x.toNatClampNeg (2 ^ (gC σ).1) 0 (nI 0)) (nI (fct (gC σ).1)) up else -1
def gvR (σ : GS) (k : Nat) (y : Int32) : Int32 × Int32 × Int32 := gvL (comeF (gC σ) (gS σ) k y) (2 ^ (gC σ).1) 0 (nI 0) (nI (2 ^ (gC σ).1 - 1)) (nI 0)
def aGave (σ : GS) (x y w : Int32) : Int32 := if inR x (gC σ).2.1 = true then
    if ordB y (gC σ).1 = false ∨ w < 0 ∨ nI 2 < w then -2
    else if x.toNatClampNeg < sPsd (gS σ) then -3
    else if w = 0 then (gvR σ x.toNatClampNeg y).1 else if (gvR σ x.toNatClampNeg y).1 = 0 then -9 else if w = nI 1 then (gvR σ x.toNatClampNeg y).2.1 else nI (2 ^ (gC σ).1 - 1) &&& ((gvR σ x.toNatClampNeg y).2.2 ^^^ -1)
  else -1
def rsR (σ : GS) (i j k : Nat) : Int32 × Int32 := rsA (fun a b => restL (ls1 (gC σ) (gS σ) i j k) (ls2 (gC σ) (gS σ) i j k) a b 4 0) 4 0 (nI 0, -9)
def aRests (σ : GS) (x y z w : Int32) : Int32 := if (inR x (gC σ).1 && (inR y (gC σ).1 && inR z (gC σ).2.1)) = true then
    if x = y ∨ w < 0 ∨ nI 1 < w then -2
    else if z.toNatClampNeg < sPsd (gS σ) then -3
    else if w = 0 then (rsR σ x.toNatClampNeg y.toNatClampNeg z.toNatClampNeg).1 else (rsR σ x.toNatClampNeg y.toNatClampNeg z.toNatClampNeg).2
  else -1
def aAsleep (σ : GS) (x p t : Int32) (up : Bool) : Int32 := if inR x (gC σ).1 = true then
    if inR p (gC σ).1 = false ∨ t < 0 ∨ nI 10 < t then -2
    else tfF (asL (isW (gC σ) (gS σ) x.toNatClampNeg p.toNatClampNeg) t.toNatClampNeg ((gC σ).2.1 - sPsd (gS σ)) (2 ^ ((gC σ).2.1 - sPsd (gS σ))) 0 (nI 0)) (pw (nI 10) ((gC σ).2.1 - sPsd (gS σ))) up
  else -1
def aCount (σ : GS) (w : Int32) : Int32 := if w = nI 0 then nI (gL σ) else if w = nI 1 then nI (gC σ).2.1 else if w = nI 2 then nI (gC σ).1 else if w = nI 3 then nI (sPsd (gS σ))
  else if w = nI 4 then fig (sRow (gS σ)) (gC σ).1 else if w = nI 5 then sm (fun j => nI (sTea (gS σ) j)) (gC σ).1 else if w = nI 6 then sm (sGvn (gS σ)) 30 else if w = nI 7 then nI (gA σ)
  else if w = nI 8 then gH (sRow (gB σ)) (sHrs (gB σ)) (gC σ).1 else -2
/-! what stays: questions change the cells of trials alone -/
abbrev Qry : Nat → Nat → Prop := fun i _ => (12 ≤ i ∧ i ≤ 17) ∨ (119 ≤ i ∧ i ≤ 124)
def SmC (μ μ' : Mem) : Prop := (∀ i j, 125 ≤ i → μ'.1 i j = μ.1 i j) ∧ μ'.2 125 = μ.2 125
theorem Sme.C {P : Nat → Nat → Prop} {μ μ' : Mem} (h : Sme P μ μ') (hp : ∀ i j, P i j → i ≤ 124) : SmC μ μ' := ⟨fun i j hi => h.1 i j (fun z => absurd (hp i j z) (by omega)), by rw [h.2]⟩
theorem CAc.kept {μ μ1 : Mem} {C : CF} {hist : Nat → ST} {a : Nat} {P : Nat → Nat → Prop} (h : CAc μ C hist a) (hs : Sme P μ μ1) (hn : ∀ i j, 18 ≤ i → i ≤ 103 → ¬ P i j) : CAc μ1 C hist a := by
  obtain ⟨h1, h2, old, h3, h4, h5⟩ := h
  refine ⟨h1, (hs.1 _ _ (hn _ _ (by omega) (by omega))).trans h2, old, h3, (hs.1 _ _ (hn _ _ (by omega) (by omega))).trans h4, fun i hi => (h5 i hi).kept hs (fun x y z1 z2 => hn x y (by omega) (by omega))⟩
theorem CSl.kept {μ μ1 : Mem} {C : CF} {kept : Nat → Option ST} {P : Nat → Nat → Prop} (h : CSl μ C kept) (hs : Sme P μ μ1) (hn : ∀ i j, 105 ≤ i → i ≤ 118 → ¬ P i j) : CSl μ1 C kept := fun s hs2 =>
  ⟨(hs.1 _ _ (hn _ _ (by omega) (by omega))).trans (h s hs2).1, fun T hT => ((h s hs2).2 T hT).kept hs (fun x y z1 z2 => hn x y (by omega) (by omega))⟩
theorem CI.kept {μ μ1 : Mem} {σ : GS} (h : CI μ σ) (hs : Sme Qry μ μ1) : CI μ1 σ :=
  ⟨h.1.kept hs (by omega) (fun k => by omega), h.2.1.kept hs (by omega) (by omega) (fun j => by omega) (fun j => by omega), h.2.2.1.kept hs (fun i j z1 z2 => by omega), h.2.2.2.1.kept hs (fun i j z1 z2 => by omega), h.2.2.2.2.1.kept hs (fun i j z1 z2 => by omega), by rw [hs.2]; exact h.2.2.2.2.2⟩
theorem CI.q {μ : Mem} {σ : GS} (h : CI μ σ) (w : WF σ) : Qc μ (gC σ) (gS σ) := ⟨h.2.1, h.2.2.1, w.1.1, w.1.2.1⟩
theorem inR_cl {x : Int32} {n : Nat} (hn : n < 2 ^ 31) (h : inR x n = true) : x.toNatClampNeg < n ∧ x = nI x.toNatClampNeg := by
  obtain ⟨k, hk, rfl⟩ := inR_of hn h
  rw [nI_clamp (by omega)]
  exact ⟨hk, rfl⟩

