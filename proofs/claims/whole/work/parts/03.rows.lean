/-! the words that hold of tables alone, and the one list of them that every method here is given -/
abbrev TT : List Cond := lw_tbl.filter goodWord
theorem mTT {w : Cond} (h : w ∈ lw_tbl) (g : goodWord w = true) : w ∈ TT := List.mem_filter.mpr ⟨h, g⟩
theorem good_TT : GoodIn TT TT := fun _ h => ⟨h, good_of_word (List.mem_filter.mp h).2⟩
theorem good_cTT {y : MethodName} {cc : ByteArray} {maxL : Nat} {ret : Option FieldType} (h : Cond.code y cc maxL ret ∈ lw_tbl) : GoodIn TT (Cond.code y cc maxL ret :: TT) := by
  intro w hw
  rcases List.mem_cons.mp hw with rfl | hw
  · exact ⟨mTT h rfl, good_of_word rfl⟩
  · exact good_TT w hw
abbrev classes : List vw_C := [(RX0, TX0, 3), (RX1, TX1, 6), (RX2, TX2, 6), (RX3, TX3, 2), (RX4, TX4, 2), (RX5, TX5, 7), (RX6, TX6, 2), (RX7, TX7, 7), (RX8, TX8, 23)]
/-! the heap's fixed shape: an object (its class, its fields: none an int, some none a long, some (some r) the cell r), an array of ints (0) or booleans (1), an array of cells -/
abbrev Kd : Type := (Nat × List (Option (Option Nat))) ⊕ ((Nat × Nat) ⊕ List Nat)
abbrev kSt (b : Nat) : Kd := .inl (5, [some (some (b + 1)), some (some (b + 2)), some (some (b + 3)), some (some (b + 4)), some (some (b + 5)), none, none])
def shL : List Kd := [.inl (7, [some (some 1), some (some 3), some (some 18), some (some 104), some (some 119), some (some 122), some none]), .inl (6, [some (some 2), none]), .inr (.inl (0, 40)), .inl (1, [some (some 4), some (some 5), some (some 6), some (some 12), none, none]), .inr (.inl (0, 6)), .inr (.inl (0, 6)), kSt 6, .inr (.inl (0, 6)), .inr (.inl (0, 6)), .inr (.inl (0, 6)), .inr (.inl (0, 5)), .inr (.inl (0, 30)), kSt 12, .inr (.inl (0, 6)), .inr (.inl (0, 6)), .inr (.inl (0, 6)), .inr (.inl (0, 5)), .inr (.inl (0, 30)), .inl (0, [some (some 19), none, none]), .inr (.inr [20, 26, 32, 38, 44, 50, 56, 62, 68, 74, 80, 86, 92, 98]), kSt 20, .inr (.inl (0, 6)), .inr (.inl (0, 6)), .inr (.inl (0, 6)), .inr (.inl (0, 5)), .inr (.inl (0, 30)), kSt 26, .inr (.inl (0, 6)), .inr (.inl (0, 6)), .inr (.inl (0, 6)), .inr (.inl (0, 5)), .inr (.inl (0, 30)), kSt 32, .inr (.inl (0, 6)), .inr (.inl (0, 6)), .inr (.inl (0, 6)), .inr (.inl (0, 5)), .inr (.inl (0, 30)), kSt 38, .inr (.inl (0, 6)), .inr (.inl (0, 6)), .inr (.inl (0, 6)), .inr (.inl (0, 5)), .inr (.inl (0, 30)), kSt 44, .inr (.inl (0, 6)), .inr (.inl (0, 6)), .inr (.inl (0, 6)), .inr (.inl (0, 5)), .inr (.inl (0, 30)), kSt 50, .inr (.inl (0, 6)), .inr (.inl (0, 6)), .inr (.inl (0, 6)), .inr (.inl (0, 5)), .inr (.inl (0, 30)), kSt 56, .inr (.inl (0, 6)), .inr (.inl (0, 6)), .inr (.inl (0, 6)), .inr (.inl (0, 5)), .inr (.inl (0, 30)), kSt 62, .inr (.inl (0, 6)), .inr (.inl (0, 6)), .inr (.inl (0, 6)), .inr (.inl (0, 5)), .inr (.inl (0, 30)), kSt 68, .inr (.inl (0, 6)), .inr (.inl (0, 6)), .inr (.inl (0, 6)), .inr (.inl (0, 5)), .inr (.inl (0, 30)), kSt 74, .inr (.inl (0, 6)), .inr (.inl (0, 6)), .inr (.inl (0, 6)), .inr (.inl (0, 5)), .inr (.inl (0, 30)), kSt 80, .inr (.inl (0, 6)), .inr (.inl (0, 6)), .inr (.inl (0, 6)), .inr (.inl (0, 5)), .inr (.inl (0, 30)), kSt 86, .inr (.inl (0, 6)), .inr (.inl (0, 6)), .inr (.inl (0, 6)), .inr (.inl (0, 5)), .inr (.inl (0, 30)), kSt 92, .inr (.inl (0, 6)), .inr (.inl (0, 6)), .inr (.inl (0, 6)), .inr (.inl (0, 5)), .inr (.inl (0, 30)), kSt 98, .inr (.inl (0, 6)), .inr (.inl (0, 6)), .inr (.inl (0, 6)), .inr (.inl (0, 5)), .inr (.inl (0, 30)), .inl (4, [some (some 105), some (some 118)]), .inr (.inr [106, 112]), kSt 106, .inr (.inl (0, 6)), .inr (.inl (0, 6)), .inr (.inl (0, 6)), .inr (.inl (0, 5)), .inr (.inl (0, 30)), kSt 112, .inr (.inl (0, 6)), .inr (.inl (0, 6)), .inr (.inl (0, 6)), .inr (.inl (0, 5)), .inr (.inl (0, 30)), .inr (.inl (1, 2)), .inl (3, [some (some 120), some (some 121)]), .inr (.inl (0, 6)), .inr (.inl (0, 6)), .inl (2, [some (some 123), some (some 124), none, none, none, none]), .inr (.inl (0, 16)), .inr (.inl (0, 16)), .inl (8, [none, none, some (some 126), some (some 127), some (some 128), some (some 129), some (some 130), none, none, some (some 131), none, none, none, some (some 132), none, none, some (some 133), some (some 134), some (some 135), some (some 136), some none, some (some 137), some (some 138)]), .inr (.inl (0, 6)), .inr (.inl (0, 6)), .inr (.inl (0, 108)), .inr (.inl (0, 5)), .inr (.inl (0, 18)), .inr (.inl (0, 40)), .inr (.inl (0, 6)), .inr (.inl (0, 756)), .inr (.inl (0, 64)), .inr (.inl (0, 16)), .inr (.inl (0, 16)), .inr (.inl (1, 2)), .inr (.inl (0, 108))]
def sh (id : Nat) : Kd := shL.getD id (.inr (.inr []))
abbrev NC : Nat := 139
theorem shL_len : shL.length = NC := by decide +kernel
theorem sh_lt {id : Nat} (h : sh id ≠ .inr (.inr [])) : id < NC := by
  rcases Nat.lt_or_ge id NC with q | q
  · exact q
  · exact absurd (by unfold sh; rw [List.getD_eq_getElem?_getD, List.getElem?_eq_none (by rw [shL_len]; exact q)]; rfl) h
/-- a State's cells stand at the cell b and behind it -/
def StB (b : Nat) : Prop := sh b = kSt b ∧ sh (b + 1) = .inr (.inl (0, 6)) ∧ sh (b + 2) = .inr (.inl (0, 6)) ∧ sh (b + 3) = .inr (.inl (0, 6)) ∧ sh (b + 4) = .inr (.inl (0, 5)) ∧ sh (b + 5) = .inr (.inl (0, 30))
theorem sh_0 : sh 0 = .inl (7, [some (some 1), some (some 3), some (some 18), some (some 104), some (some 119), some (some 122), some none]) := rfl
theorem sh_1 : sh 1 = .inl (6, [some (some 2), none]) := rfl
theorem sh_2 : sh 2 = .inr (.inl (0, 40)) := rfl
theorem sh_3 : sh 3 = .inl (1, [some (some 4), some (some 5), some (some 6), some (some 12), none, none]) := rfl
theorem sh_4 : sh 4 = .inr (.inl (0, 6)) := rfl
theorem sh_5 : sh 5 = .inr (.inl (0, 6)) := rfl
theorem sh_18 : sh 18 = .inl (0, [some (some 19), none, none]) := rfl
theorem sh_19 : sh 19 = .inr (.inr [20, 26, 32, 38, 44, 50, 56, 62, 68, 74, 80, 86, 92, 98]) := rfl
theorem sh_104 : sh 104 = .inl (4, [some (some 105), some (some 118)]) := rfl
theorem sh_105 : sh 105 = .inr (.inr [106, 112]) := rfl
theorem sh_118 : sh 118 = .inr (.inl (1, 2)) := rfl
theorem sh_119 : sh 119 = .inl (3, [some (some 120), some (some 121)]) := rfl
theorem sh_120 : sh 120 = .inr (.inl (0, 6)) := rfl
theorem sh_121 : sh 121 = .inr (.inl (0, 6)) := rfl
theorem sh_122 : sh 122 = .inl (2, [some (some 123), some (some 124), none, none, none, none]) := rfl
theorem sh_123 : sh 123 = .inr (.inl (0, 16)) := rfl
theorem sh_124 : sh 124 = .inr (.inl (0, 16)) := rfl
theorem sh_125 : sh 125 = .inl (8, [none, none, some (some 126), some (some 127), some (some 128), some (some 129), some (some 130), none, none, some (some 131), none, none, none, some (some 132), none, none, some (some 133), some (some 134), some (some 135), some (some 136), some none, some (some 137), some (some 138)]) := rfl
theorem sh_126 : sh 126 = .inr (.inl (0, 6)) := rfl
theorem sh_127 : sh 127 = .inr (.inl (0, 6)) := rfl
theorem sh_128 : sh 128 = .inr (.inl (0, 108)) := rfl
theorem sh_129 : sh 129 = .inr (.inl (0, 5)) := rfl
theorem sh_130 : sh 130 = .inr (.inl (0, 18)) := rfl
theorem sh_131 : sh 131 = .inr (.inl (0, 40)) := rfl
theorem sh_132 : sh 132 = .inr (.inl (0, 6)) := rfl
theorem sh_133 : sh 133 = .inr (.inl (0, 756)) := rfl
theorem sh_134 : sh 134 = .inr (.inl (0, 64)) := rfl
theorem sh_135 : sh 135 = .inr (.inl (0, 16)) := rfl
theorem sh_136 : sh 136 = .inr (.inl (0, 16)) := rfl
theorem sh_137 : sh 137 = .inr (.inl (1, 2)) := rfl
theorem sh_138 : sh 138 = .inr (.inl (0, 108)) := rfl
theorem stB_6 : StB 6 := ⟨rfl, rfl, rfl, rfl, rfl, rfl⟩
theorem stB_12 : StB 12 := ⟨rfl, rfl, rfl, rfl, rfl, rfl⟩
theorem stB_act {k : Nat} (h : k < 14) : StB (20 + 6 * k) := by
  have H : ∀ k, k < 14 → StB (20 + 6 * k) := by
    intro k hk
    match k, hk with
    | 0, _ => exact ⟨rfl, rfl, rfl, rfl, rfl, rfl⟩
    | 1, _ => exact ⟨rfl, rfl, rfl, rfl, rfl, rfl⟩
    | 2, _ => exact ⟨rfl, rfl, rfl, rfl, rfl, rfl⟩
    | 3, _ => exact ⟨rfl, rfl, rfl, rfl, rfl, rfl⟩
    | 4, _ => exact ⟨rfl, rfl, rfl, rfl, rfl, rfl⟩
    | 5, _ => exact ⟨rfl, rfl, rfl, rfl, rfl, rfl⟩
    | 6, _ => exact ⟨rfl, rfl, rfl, rfl, rfl, rfl⟩
    | 7, _ => exact ⟨rfl, rfl, rfl, rfl, rfl, rfl⟩
    | 8, _ => exact ⟨rfl, rfl, rfl, rfl, rfl, rfl⟩
    | 9, _ => exact ⟨rfl, rfl, rfl, rfl, rfl, rfl⟩
    | 10, _ => exact ⟨rfl, rfl, rfl, rfl, rfl, rfl⟩
    | 11, _ => exact ⟨rfl, rfl, rfl, rfl, rfl, rfl⟩
    | 12, _ => exact ⟨rfl, rfl, rfl, rfl, rfl, rfl⟩
    | 13, _ => exact ⟨rfl, rfl, rfl, rfl, rfl, rfl⟩
  exact H k h
theorem stB_slot {k : Nat} (h : k < 2) : StB (106 + 6 * k) := by
  have H : ∀ k, k < 2 → StB (106 + 6 * k) := by
    intro k hk
    match k, hk with
    | 0, _ => exact ⟨rfl, rfl, rfl, rfl, rfl, rfl⟩
    | 1, _ => exact ⟨rfl, rfl, rfl, rfl, rfl, rfl⟩
  exact H k h
theorem sh_small {id t n : Nat} (h : sh id = .inr (.inl (t, n))) : n < 2 ^ 31 := by
  have H : ∀ k, k < NC → (match sh k with | .inr (.inl q) => decide (q.2 < 1000) | _ => true) = true := by decide +kernel
  have h1 := H id (sh_lt (by rw [h]; intro z; cases z))
  rw [h] at h1
  have h2 : n < 1000 := of_decide_eq_true h1
  exact Nat.lt_trans h2 (by decide)
/-! the ints and the longs in it -/
abbrev Mem : Type := (Nat → Nat → Int32) × (Nat → Int64)
def sti (μ : Mem) (i k : Nat) (x : Int32) : Mem := (fun a b => if a = i ∧ b = k then x else μ.1 a b, μ.2)
def stl (μ : Mem) (i : Nat) (x : Int64) : Mem := (μ.1, fun a => if a = i then x else μ.2 a)
def sta (μ : Mem) (i : Nat) (f : Nat → Int32) : Mem := (fun a b => if a = i then f b else μ.1 a b, μ.2)
theorem sti_1 (μ : Mem) (i k : Nat) (x : Int32) (a b : Nat) : (sti μ i k x).1 a b = if a = i ∧ b = k then x else μ.1 a b := rfl
theorem sta_1 (μ : Mem) (i : Nat) (f : Nat → Int32) (a b : Nat) : (sta μ i f).1 a b = if a = i then f b else μ.1 a b := rfl
theorem sti_2 (μ : Mem) (i k : Nat) (x : Int32) : (sti μ i k x).2 = μ.2 := rfl
theorem sta_2 (μ : Mem) (i : Nat) (f : Nat → Int32) : (sta μ i f).2 = μ.2 := rfl
theorem stl_1 (μ : Mem) (i : Nat) (x : Int64) : (stl μ i x).1 = μ.1 := rfl
theorem stl_2 (μ : Mem) (i : Nat) (x : Int64) (a : Nat) : (stl μ i x).2 a = if a = i then x else μ.2 a := rfl
theorem sti_1_ne (μ : Mem) {i k : Nat} (x : Int32) {a : Nat} (b : Nat) (h : a ≠ i) : (sti μ i k x).1 a b = μ.1 a b := by rw [sti_1, if_neg (fun q => h q.1)]
theorem sti_1_eq (μ : Mem) (i k : Nat) (x : Int32) : (sti μ i k x).1 i k = x := by rw [sti_1, if_pos ⟨rfl, rfl⟩]
/-! the frame of a proof: classes' numbers and slots, array classes, addresses, arrays that are only read (the first: FACTORIALS) -/
abbrev Gm : Type := va_G × (ClassId × ClassId × ClassId) × (Nat → Nat) × List (Nat × Nat × (Nat → Int32))
def fac (k : Nat) : Int32 := match k with
  | 0 => 1
  | 1 => 1
  | 2 => 2
  | 3 => 6
  | 4 => 24
  | 5 => 120
  | 6 => 720
  | _ => 0
abbrev tys (G : Gm) : List (ClassId × FieldType) := [(G.2.1.1, .int), (G.2.1.2.1, .boolean), (G.2.1.2.2, .object "EelLocks$State")]
abbrev tyc (G : Gm) (t : Nat) : ClassId := match t with
  | 0 => G.2.1.1
  | _ => G.2.1.2.1
def fv (ad : Nat → Nat) (μ : Mem) (id k : Nat) (f : Option (Option Nat)) : Value := match f with
  | none => .int (μ.1 id k)
  | some none => .long (μ.2 id)
  | some (some r) => .ref (ad r)
def ce (G : Gm) (μ : Mem) (id : Nat) (q : Kd) : va_E := match q with
  | .inl o => .inr (o.1, o.2.mapIdx (fun k f => fv G.2.2.1 μ id k f))
  | .inr (.inl a) => .inl (tyc G a.1, a.2, .inl (μ.1 id))
  | .inr (.inr ids) => .inl (G.2.1.2.2, ids.length, .inr (.inr (.inr (.inr fun k => (ids[k]?).map G.2.2.1))))
def wl (G : Gm) (μ : Mem) : va_W := (List.range NC).map fun id => (G.2.2.1 id, ce G μ id (sh id))
theorem wl_get (G : Gm) (μ : Mem) {id : Nat} (h : id < NC) : (wl G μ)[id]? = some (G.2.2.1 id, ce G μ id (sh id)) := by
  unfold wl
  rw [List.getElem?_map, List.getElem?_range h]
  rfl
theorem wl_len (G : Gm) (μ : Mem) : (wl G μ).length = NC := by
  unfold wl
  rw [List.length_map, List.length_range]
theorem wl_set (G : Gm) (μ μ' : Mem) {id : Nat} (h : id < NC) (e : va_E) (he : e = ce G μ' id (sh id)) (ho : ∀ j, j ≠ id → ce G μ' j (sh j) = ce G μ j (sh j)) : (wl G μ).set id (G.2.2.1 id, e) = wl G μ' := by
  apply List.ext_getElem?
  intro j
  rcases Nat.lt_or_ge j NC with q | q
  · rw [wl_get G μ' q]
    by_cases hj : id = j
    · subst hj
      rw [List.getElem?_set_self (by rw [wl_len]; exact h), he]
    · rw [List.getElem?_set_ne hj, wl_get G μ q, ho j (fun z => hj z.symm)]
  · rw [List.getElem?_eq_none (by rw [List.length_set, wl_len]; exact q), List.getElem?_eq_none (by rw [wl_len]; exact q)]
theorem ce_congr (G : Gm) {μ μ' : Mem} {j : Nat} (h1 : ∀ k, μ'.1 j k = μ.1 j k) (h2 : μ'.2 j = μ.2 j) (q : Kd) : ce G μ' j q = ce G μ j q := by
  rcases q with o | a | ids
  · have h : (fun k f => fv G.2.2.1 μ' j k f) = fun k f => fv G.2.2.1 μ j k f := by
      funext k f
      rcases f with _ | _ | r
      · exact congrArg Value.int (h1 k)
      · exact congrArg Value.long h2
      · rfl
    exact congrArg (fun g => (Sum.inr (o.1, o.2.mapIdx g) : va_E)) h
  · exact congrArg (fun g => (Sum.inl (tyc G a.1, a.2, .inl g) : va_E)) (funext h1)
  · rfl
theorem wl_seti (G : Gm) (μ : Mem) {id t n : Nat} (hs : sh id = .inr (.inl (t, n))) (k : Nat) (x : Int32) : (wl G μ).set id (G.2.2.1 id, .inl (tyc G t, n, .inl (upd (μ.1 id) k x))) = wl G (sti μ id k x) := by
  refine wl_set G μ _ (sh_lt (by rw [hs]; intro z; cases z)) _ ?_ (fun j hj => ce_congr G (fun b => sti_1_ne μ x b hj) rfl _)
  rw [hs]
  refine congrArg (fun g => (Sum.inl (tyc G t, n, .inl g) : va_E)) (funext fun b => ?_)
  show (if b = k then x else μ.1 id b) = if id = id ∧ b = k then x else μ.1 id b
  by_cases hb : b = k
  · rw [if_pos hb, if_pos ⟨rfl, hb⟩]
  · rw [if_neg hb, if_neg (fun q => hb q.2)]
theorem wl_seta (G : Gm) (μ : Mem) {id t n : Nat} (hs : sh id = .inr (.inl (t, n))) (f : Nat → Int32) : (wl G μ).set id (G.2.2.1 id, .inl (tyc G t, n, .inl f)) = wl G (sta μ id f) := by
  refine wl_set G μ _ (sh_lt (by rw [hs]; intro z; cases z)) _ ?_ (fun j hj => ce_congr G (fun b => by rw [sta_1, if_neg hj]) (by rw [sta_2]) _)
  rw [hs]
  refine congrArg (fun g => (Sum.inl (tyc G t, n, .inl g) : va_E)) (funext fun b => ?_)
  show f b = if id = id then f b else μ.1 id b
  rw [if_pos rfl]
theorem wl_setf (G : Gm) (μ : Mem) {id ci : Nat} {fs : List (Option (Option Nat))} (hs : sh id = .inl (ci, fs)) {k : Nat} (hk : fs[k]? = some none) (x : Int32) : (wl G μ).set id (G.2.2.1 id, .inr (ci, (fs.mapIdx (fun k f => fv G.2.2.1 μ id k f)).set k (.int x))) = wl G (sti μ id k x) := by
  refine wl_set G μ _ (sh_lt (by rw [hs]; intro z; cases z)) _ ?_ (fun j hj => ce_congr G (fun b => sti_1_ne μ x b hj) rfl _)
  rw [hs]
  refine congrArg (fun g => (Sum.inr (ci, g) : va_E)) (List.ext_getElem? fun j => ?_)
  have hlt : k < fs.length := (List.getElem?_eq_some_iff.mp hk).1
  rw [List.getElem?_mapIdx]
  by_cases hj : k = j
  · subst hj
    rw [List.getElem?_set_self (by rw [List.length_mapIdx]; exact hlt), hk]
    show some (Value.int x) = some (Value.int ((sti μ id k x).1 id k))
    rw [sti_1_eq]
  · rw [List.getElem?_set_ne hj, List.getElem?_mapIdx]
    rcases fs[j]? with _ | f
    · rfl
    · refine congrArg some ?_
      rcases f with _ | _ | r
      · show Value.int (μ.1 id j) = Value.int ((sti μ id k x).1 id j)
        rw [sti_1, if_neg (fun q => hj q.2.symm)]
      · rfl
      · rfl
theorem wl_setl (G : Gm) (μ : Mem) {id ci : Nat} {fs : List (Option (Option Nat))} (hs : sh id = .inl (ci, fs)) {k : Nat} (hk : fs[k]? = some (some none)) (h1 : ∀ j, fs[j]? = some (some none) → j = k) (x : Int64) : (wl G μ).set id (G.2.2.1 id, .inr (ci, (fs.mapIdx (fun k f => fv G.2.2.1 μ id k f)).set k (.long x))) = wl G (stl μ id x) := by
  refine wl_set G μ _ (sh_lt (by rw [hs]; intro z; cases z)) _ ?_ (fun j hj => ce_congr G (fun b => by rw [stl_1]) (by rw [stl_2, if_neg hj]) _)
  rw [hs]
  refine congrArg (fun g => (Sum.inr (ci, g) : va_E)) (List.ext_getElem? fun j => ?_)
  have hlt : k < fs.length := (List.getElem?_eq_some_iff.mp hk).1
  rw [List.getElem?_mapIdx]
  by_cases hj : k = j
  · subst hj
    rw [List.getElem?_set_self (by rw [List.length_mapIdx]; exact hlt), hk]
    show some (Value.long x) = some (Value.long ((stl μ id x).2 id))
    rw [stl_2, if_pos rfl]
  · rw [List.getElem?_set_ne hj, List.getElem?_mapIdx]
    rcases hf : fs[j]? with _ | f
    · rfl
    · refine congrArg some ?_
      rcases f with _ | _ | r
      · rfl
      · exact absurd (h1 j hf).symm hj
      · rfl
/-! what holds of a state; the judgement -/
def AA (G : Gm) (q : Nat) : Prop := ∃ id, id < NC ∧ q = G.2.2.1 id
abbrev nM : Cond := Cond.methodLinkNest RX2 91 yX7_power "EelLocks"
abbrev nF : Cond := Cond.fieldLinkNest RX3 48 "EelLocks" "FACTORIALS" "[I" "EelLocks"
def Gx (G : Gm) (s : State) (H : Heap) : Prop := (∀ q ∈ G.2.2.2, va_X q.1 q.2.1 q.2.2 s H ∧ q.1 < H.size ∧ ¬ AA G q.1) ∧ (∃ fa : Nat, (fa, 7, fac) ∈ G.2.2.2 ∧ va_Z "EelLocks" "FACTORIALS" "[I" (.ref fa) (AA G) s H) ∧ va_Nw nM s ∧ va_Nw nF s
def Wd (G : Gm) (μ : Mem) (U : State) : Prop := va_P G.1 classes (wl G μ) U.heap ∧ va_K G.1 classes (tys G) U ∧ va_D (AA G) (wl G μ) ∧ Gx G U U.heap
def Hp (G : Gm) (s : State) (H : Heap) (locs : List Loc) (μ : Mem) : Prop := va_P G.1 classes (wl G μ) H ∧ va_D (AA G) (wl G μ) ∧ va_S (AA G) s.heap H locs
def Cx (G : Gm) (own : String) (cc : ByteArray) (nL dep : Nat) (p : Program) (R : Room) (s : State) (m : MethodId) (args : Array Value) (c : Code) (cells slots : Nat) : Prop :=
  p.tables.exec = Jvm.exec ∧ c.code = cc ∧ c.maxLocals = nL ∧ s.vm.findClass own = some m.cls ∧ (∀ w ∈ TT, w.before args s = true) ∧ va_K G.1 classes (tys G) s ∧ Gx G s s.heap ∧ dep ≤ R.frames ∧ 34 * dep ≤ R.locals ∧ cells ≤ R.cells ∧ slots ≤ R.slots
def lm (lg : Bool) (ls : Array Slot) (nL : Nat) (lo : List (Option Value)) : Prop := ls.size = nL ∧ lv_wf ls ∧ ∀ (i : Nat) (v : Value), lo[i]? = some (some v) → ls[i]? = some (.val v) ∧ (lg = false → v.category = 1)
/-- a return at pc with r, of a method whose descriptor says ret -/
def rok (cc : ByteArray) (ret : Option FieldType) (pc : Nat) (r : Option Value) : Prop := (∃ x, r = some (.int x) ∧ decode cc pc = .ok (.ireturn, 1) ∧ ∃ ty, ret = some ty ∧ narrow ty (.int x) = .int x) ∨ (∃ x, r = some (.long x) ∧ decode cc pc = .ok (.lreturn, 1) ∧ ret = some .long) ∨ (∃ a n, r = some (.ref a) ∧ decode cc pc = .ok (.areturn, 1) ∧ ret = some (.object n)) ∨ (r = none ∧ decode cc pc = .ok (.return_, 1) ∧ ret = none)
/-- V: from pc, locals lo, stack st, numbers μ, the method comes to a return with r and μ' of which Q r μ' holds -/
def V (G : Gm) (l : Launch) (own : String) (cc : ByteArray) (nL dep : Nat) (lg : Bool) (ret : Option FieldType) (Q : Option Value → Mem → Prop) (pc : Nat) (lo : List (Option Value)) (st : List Value) (μ : Mem) : Prop :=
  ∀ (p : Program) (e : Env) (R : Room) (s : State) (m : MethodId) (args : Array Value) (below : List Frame) (meth : Method) (c : Code) (H : Heap) (locs : List Loc) (cells slots : Nat) (Qf : State → Prop) (ls : Array Slot), Cx G own cc nL dep p R s m args c cells slots → Hp G s H locs μ → lm lg ls nL lo →
    (∀ (r : Option Value) (μ' : Mem) (H' : Heap) (locs' : List Loc) (ls' : Array Slot) (pc' : Nat), Q r μ' → Hp G s H' locs' μ' → rok cc ret pc' r → W p l e R s m args below meth c H' locs' cells slots Qf (F0 m pc' ls' r.toList)) →
    W p l e R s m args below meth c H locs cells slots Qf (F0 m pc ls st)
/-- a method's contract over the whole shape -/
def Ct (G : Gm) (l : Launch) (dep : Nat) (y : MethodName) (cc : ByteArray) (maxL : Nat) (ret : Option FieldType) (As : List Value) (μ : Mem) (Q : Option Value → Mem → Prop) : Prop :=
  Met l y (.code y cc maxL ret :: TT) { frames := dep, cells := 0, slots := 0, locals := 34 * dep } (va_Pc As (Wd G μ)) (fun _ st oc t => (∃ (r : Option Value) (μ' : Mem), oc = .returned r ∧ Q r μ' ∧ va_P G.1 classes (wl G μ') t.heap ∧ va_D (AA G) (wl G μ')) ∧ va_F (AA G) st t) 0 0 (AA G)
section VR
variable {G : Gm} {l : Launch} {own : String} {cc : ByteArray} {nL dep : Nat} {lg : Bool} {ret : Option FieldType} {Q : Option Value → Mem → Prop} {pc n : Nat} {lo : List (Option Value)} {st : List Value} {μ : Mem}
theorem R_iadd {x y : Int32} (hdg : decode cc pc = .ok (.iadd, 1)) (hn : pc + 1 = n) (k : V G l own cc nL dep lg ret Q n lo (.int (x + y) :: st) μ) : V G l own cc nL dep lg ret Q pc lo (.int y :: .int x :: st) μ := by
  subst hn
  intro p e R s m args below meth c H locs cells slots Qf ls hC hH hL hF
  exact lv_iadd hC.1 hC.2.1 hdg (k p e R s m args below meth c H locs cells slots Qf ls hC hH hL hF)
theorem R_isub {x y : Int32} (hdg : decode cc pc = .ok (.isub, 1)) (hn : pc + 1 = n) (k : V G l own cc nL dep lg ret Q n lo (.int (x - y) :: st) μ) : V G l own cc nL dep lg ret Q pc lo (.int y :: .int x :: st) μ := by
  subst hn
  intro p e R s m args below meth c H locs cells slots Qf ls hC hH hL hF
  exact lv_isub hC.1 hC.2.1 hdg (k p e R s m args below meth c H locs cells slots Qf ls hC hH hL hF)
theorem R_imul {x y : Int32} (hdg : decode cc pc = .ok (.imul, 1)) (hn : pc + 1 = n) (k : V G l own cc nL dep lg ret Q n lo (.int (x * y) :: st) μ) : V G l own cc nL dep lg ret Q pc lo (.int y :: .int x :: st) μ := by
  subst hn
  intro p e R s m args below meth c H locs cells slots Qf ls hC hH hL hF
  exact lv_imul hC.1 hC.2.1 hdg (k p e R s m args below meth c H locs cells slots Qf ls hC hH hL hF)
theorem R_iand {x y : Int32} (hdg : decode cc pc = .ok (.iand, 1)) (hn : pc + 1 = n) (k : V G l own cc nL dep lg ret Q n lo (.int (x &&& y) :: st) μ) : V G l own cc nL dep lg ret Q pc lo (.int y :: .int x :: st) μ := by
  subst hn
  intro p e R s m args below meth c H locs cells slots Qf ls hC hH hL hF
  exact lv_iand hC.1 hC.2.1 hdg (k p e R s m args below meth c H locs cells slots Qf ls hC hH hL hF)
theorem R_ior {x y : Int32} (hdg : decode cc pc = .ok (.ior, 1)) (hn : pc + 1 = n) (k : V G l own cc nL dep lg ret Q n lo (.int (x ||| y) :: st) μ) : V G l own cc nL dep lg ret Q pc lo (.int y :: .int x :: st) μ := by
  subst hn
  intro p e R s m args below meth c H locs cells slots Qf ls hC hH hL hF
  exact lv_ior hC.1 hC.2.1 hdg (k p e R s m args below meth c H locs cells slots Qf ls hC hH hL hF)
theorem R_ixor {x y : Int32} (hdg : decode cc pc = .ok (.ixor, 1)) (hn : pc + 1 = n) (k : V G l own cc nL dep lg ret Q n lo (.int (x ^^^ y) :: st) μ) : V G l own cc nL dep lg ret Q pc lo (.int y :: .int x :: st) μ := by
  subst hn
  intro p e R s m args below meth c H locs cells slots Qf ls hC hH hL hF
  exact lv_ixor hC.1 hC.2.1 hdg (k p e R s m args below meth c H locs cells slots Qf ls hC hH hL hF)
theorem R_ishl {x y : Int32} (hdg : decode cc pc = .ok (.ishl, 1)) (hn : pc + 1 = n) (k : V G l own cc nL dep lg ret Q n lo (.int (x <<< (y &&& 31)) :: st) μ) : V G l own cc nL dep lg ret Q pc lo (.int y :: .int x :: st) μ := by
  subst hn
  intro p e R s m args below meth c H locs cells slots Qf ls hC hH hL hF
  exact lv_ishl hC.1 hC.2.1 hdg (k p e R s m args below meth c H locs cells slots Qf ls hC hH hL hF)
theorem R_ishr {x y : Int32} (hdg : decode cc pc = .ok (.ishr, 1)) (hn : pc + 1 = n) (k : V G l own cc nL dep lg ret Q n lo (.int (x >>> (y &&& 31)) :: st) μ) : V G l own cc nL dep lg ret Q pc lo (.int y :: .int x :: st) μ := by
  subst hn
  intro p e R s m args below meth c H locs cells slots Qf ls hC hH hL hF
  exact lv_ishr hC.1 hC.2.1 hdg (k p e R s m args below meth c H locs cells slots Qf ls hC hH hL hF)
theorem R_ladd {x y : Int64} (hdg : decode cc pc = .ok (.ladd, 1)) (hn : pc + 1 = n) (k : V G l own cc nL dep lg ret Q n lo (.long (x + y) :: st) μ) : V G l own cc nL dep lg ret Q pc lo (.long y :: .long x :: st) μ := by
  subst hn
  intro p e R s m args below meth c H locs cells slots Qf ls hC hH hL hF
  exact lv_ladd hC.1 hC.2.1 hdg (k p e R s m args below meth c H locs cells slots Qf ls hC hH hL hF)
theorem R_lmul {x y : Int64} (hdg : decode cc pc = .ok (.lmul, 1)) (hn : pc + 1 = n) (k : V G l own cc nL dep lg ret Q n lo (.long (x * y) :: st) μ) : V G l own cc nL dep lg ret Q pc lo (.long y :: .long x :: st) μ := by
  subst hn
  intro p e R s m args below meth c H locs cells slots Qf ls hC hH hL hF
  exact lv_lmul hC.1 hC.2.1 hdg (k p e R s m args below meth c H locs cells slots Qf ls hC hH hL hF)
theorem R_land {x y : Int64} (hdg : decode cc pc = .ok (.land, 1)) (hn : pc + 1 = n) (k : V G l own cc nL dep lg ret Q n lo (.long (x &&& y) :: st) μ) : V G l own cc nL dep lg ret Q pc lo (.long y :: .long x :: st) μ := by
  subst hn
  intro p e R s m args below meth c H locs cells slots Qf ls hC hH hL hF
  exact lv_land hC.1 hC.2.1 hdg (k p e R s m args below meth c H locs cells slots Qf ls hC hH hL hF)
theorem R_lor {x y : Int64} (hdg : decode cc pc = .ok (.lor, 1)) (hn : pc + 1 = n) (k : V G l own cc nL dep lg ret Q n lo (.long (x ||| y) :: st) μ) : V G l own cc nL dep lg ret Q pc lo (.long y :: .long x :: st) μ := by
  subst hn
  intro p e R s m args below meth c H locs cells slots Qf ls hC hH hL hF
  exact lv_lor hC.1 hC.2.1 hdg (k p e R s m args below meth c H locs cells slots Qf ls hC hH hL hF)
theorem R_ineg {x : Int32} (hdg : decode cc pc = .ok (.ineg, 1)) (hn : pc + 1 = n) (k : V G l own cc nL dep lg ret Q n lo (.int (-x) :: st) μ) : V G l own cc nL dep lg ret Q pc lo (.int x :: st) μ := by
  subst hn
  intro p e R s m args below meth c H locs cells slots Qf ls hC hH hL hF
  exact lv_ineg hC.1 hC.2.1 hdg (k p e R s m args below meth c H locs cells slots Qf ls hC hH hL hF)
theorem R_i2l {x : Int32} (hdg : decode cc pc = .ok (.i2l, 1)) (hn : pc + 1 = n) (k : V G l own cc nL dep lg ret Q n lo (.long x.toInt64 :: st) μ) : V G l own cc nL dep lg ret Q pc lo (.int x :: st) μ := by
  subst hn
  intro p e R s m args below meth c H locs cells slots Qf ls hC hH hL hF
  exact lv_i2l hC.1 hC.2.1 hdg rfl (k p e R s m args below meth c H locs cells slots Qf ls hC hH hL hF)
theorem R_l2i {x : Int64} (hdg : decode cc pc = .ok (.l2i, 1)) (hn : pc + 1 = n) (k : V G l own cc nL dep lg ret Q n lo (.int x.toInt32 :: st) μ) : V G l own cc nL dep lg ret Q pc lo (.long x :: st) μ := by
  subst hn
  intro p e R s m args below meth c H locs cells slots Qf ls hC hH hL hF
  exact lv_l2i hC.1 hC.2.1 hdg rfl (k p e R s m args below meth c H locs cells slots Qf ls hC hH hL hF)
theorem R_idiv {x y : Int32} (hdg : decode cc pc = .ok (.idiv, 1)) (hne : ¬ y = 0) (hn : pc + 1 = n) (k : V G l own cc nL dep lg ret Q n lo (.int (x / y) :: st) μ) : V G l own cc nL dep lg ret Q pc lo (.int y :: .int x :: st) μ := by
  subst hn
  intro p e R s m args below meth c H locs cells slots Qf ls hC hH hL hF
  exact lv_idiv hC.1 hC.2.1 hdg hne (k p e R s m args below meth c H locs cells slots Qf ls hC hH hL hF)
theorem R_irem {x y : Int32} (hdg : decode cc pc = .ok (.irem, 1)) (hne : ¬ y = 0) (hn : pc + 1 = n) (k : V G l own cc nL dep lg ret Q n lo (.int (x - x / y * y) :: st) μ) : V G l own cc nL dep lg ret Q pc lo (.int y :: .int x :: st) μ := by
  subst hn
  intro p e R s m args below meth c H locs cells slots Qf ls hC hH hL hF
  exact lv_irem hC.1 hC.2.1 hdg hne (k p e R s m args below meth c H locs cells slots Qf ls hC hH hL hF)
theorem R_lrem {x y : Int64} (hdg : decode cc pc = .ok (.lrem, 1)) (hne : ¬ y = 0) (hn : pc + 1 = n) (k : V G l own cc nL dep lg ret Q n lo (.long (x - x / y * y) :: st) μ) : V G l own cc nL dep lg ret Q pc lo (.long y :: .long x :: st) μ := by
  subst hn
  intro p e R s m args below meth c H locs cells slots Qf ls hC hH hL hF
  exact lv_lrem hC.1 hC.2.1 hdg hne (k p e R s m args below meth c H locs cells slots Qf ls hC hH hL hF)
theorem R_iushr {x y : Int32} (hdg : decode cc pc = .ok (.iushr, 1)) (hn : pc + 1 = n) (k : V G l own cc nL dep lg ret Q n lo (.int (x.toUInt32 >>> (y.toUInt32 &&& Int32.toUInt32 31)).toInt32 :: st) μ) : V G l own cc nL dep lg ret Q pc lo (.int y :: .int x :: st) μ := by
  subst hn
  intro p e R s m args below meth c H locs cells slots Qf ls hC hH hL hF
  exact lv_iushr hC.1 hC.2.1 hdg rfl (k p e R s m args below meth c H locs cells slots Qf ls hC hH hL hF)
theorem R_lushr {x : Int64} {y : Int32} (hdg : decode cc pc = .ok (.lushr, 1)) (hn : pc + 1 = n) (k : V G l own cc nL dep lg ret Q n lo (.long (x.toUInt64 >>> (y.toInt64.toUInt64 &&& Int64.toUInt64 63)).toInt64 :: st) μ) : V G l own cc nL dep lg ret Q pc lo (.int y :: .long x :: st) μ := by
  subst hn
  intro p e R s m args below meth c H locs cells slots Qf ls hC hH hL hF
  exact lv_lushr hC.1 hC.2.1 hdg rfl (k p e R s m args below meth c H locs cells slots Qf ls hC hH hL hF)
theorem R_lcmp {x y : Int64} (hdg : decode cc pc = .ok (.lcmp, 1)) (hn : pc + 1 = n) (k : V G l own cc nL dep lg ret Q n lo (.int (lg_cmp x y) :: st) μ) : V G l own cc nL dep lg ret Q pc lo (.long y :: .long x :: st) μ := by
  subst hn
  intro p e R s m args below meth c H locs cells slots Qf ls hC hH hL hF
  exact W.lcmp hC.1 hC.2.1 hdg (k p e R s m args below meth c H locs cells slots Qf ls hC hH hL hF)
theorem R_dup {va : Value} (hdg : decode cc pc = .ok (.dup, 1)) (hva : va.category = 1) (hn : pc + 1 = n) (k : V G l own cc nL dep lg ret Q n lo (va :: va :: st) μ) : V G l own cc nL dep lg ret Q pc lo (va :: st) μ := by
  subst hn
  intro p e R s m args below meth c H locs cells slots Qf ls hC hH hL hF
  exact lv_dup hC.1 hC.2.1 hdg hva (k p e R s m args below meth c H locs cells slots Qf ls hC hH hL hF)
theorem R_dup2 {va vb : Value} (hdg : decode cc pc = .ok (.dup2, 1)) (hva : va.category = 1) (hvb : vb.category = 1) (hn : pc + 1 = n) (k : V G l own cc nL dep lg ret Q n lo (va :: vb :: va :: vb :: st) μ) : V G l own cc nL dep lg ret Q pc lo (va :: vb :: st) μ := by
  subst hn
  intro p e R s m args below meth c H locs cells slots Qf ls hC hH hL hF
  exact lv_dup2_11 hC.1 hC.2.1 hdg hva hvb (k p e R s m args below meth c H locs cells slots Qf ls hC hH hL hF)
theorem R_iconst {i : Int} {v : Int32} (hdg : decode cc pc = .ok (.iconst i, 1)) (hv : Int32.ofInt i = v) (hn : pc + 1 = n) (k : V G l own cc nL dep lg ret Q n lo (.int v :: st) μ) : V G l own cc nL dep lg ret Q pc lo (st) μ := by
  subst hn
  intro p e R s m args below meth c H locs cells slots Qf ls hC hH hL hF
  exact lv_iconst hC.1 hC.2.1 hdg hv (k p e R s m args below meth c H locs cells slots Qf ls hC hH hL hF)
theorem R_bipush {i : Int} {v : Int32} (hdg : decode cc pc = .ok (.bipush i, 2)) (hv : (Int8.ofInt i).toInt32 = v) (hn : pc + 2 = n) (k : V G l own cc nL dep lg ret Q n lo (.int v :: st) μ) : V G l own cc nL dep lg ret Q pc lo (st) μ := by
  subst hn
  intro p e R s m args below meth c H locs cells slots Qf ls hC hH hL hF
  exact lv_bipush hC.1 hC.2.1 hdg hv (k p e R s m args below meth c H locs cells slots Qf ls hC hH hL hF)
theorem R_sipush {i : Int} {v : Int32} (hdg : decode cc pc = .ok (.sipush i, 3)) (hv : (Int16.ofInt i).toInt32 = v) (hn : pc + 3 = n) (k : V G l own cc nL dep lg ret Q n lo (.int v :: st) μ) : V G l own cc nL dep lg ret Q pc lo (st) μ := by
  subst hn
  intro p e R s m args below meth c H locs cells slots Qf ls hC hH hL hF
  exact lv_sipush hC.1 hC.2.1 hdg hv (k p e R s m args below meth c H locs cells slots Qf ls hC hH hL hF)
theorem R_lconst {i : Fin 2} {v : Int64} (hdg : decode cc pc = .ok (.lconst i, 1)) (hv : Int64.ofNat (i : Nat) = v) (hn : pc + 1 = n) (k : V G l own cc nL dep lg ret Q n lo (.long v :: st) μ) : V G l own cc nL dep lg ret Q pc lo (st) μ := by
  subst hn
  intro p e R s m args below meth c H locs cells slots Qf ls hC hH hL hF
  exact lv_lconst hC.1 hC.2.1 hdg hv (k p e R s m args below meth c H locs cells slots Qf ls hC hH hL hF)
theorem R_ldc2 {ix : Nat} {v : Int64} (hdg : decode cc pc = .ok (.ldc2_w ix, 3)) (hw : Cond.constantLong own ix v ∈ lw_tbl) (hn : pc + 3 = n) (k : V G l own cc nL dep lg ret Q n lo (.long v :: st) μ) : V G l own cc nL dep lg ret Q pc lo (st) μ := by
  subst hn
  intro p e R s m args below meth c H locs cells slots Qf ls hC hH hL hF
  exact lv_ldc2 hC.1 hC.2.1 hC.2.2.2.1 (hC.2.2.2.2.1 _ (mTT hw rfl)) hdg (k p e R s m args below meth c H locs cells slots Qf ls hC hH hL hF)
theorem R_ldcw {ix : Nat} {v : Int32} (hdg : decode cc pc = .ok (.ldc_w ix, 3)) (hw : Cond.constant own ix v ∈ lw_tbl) (hn : pc + 3 = n) (k : V G l own cc nL dep lg ret Q n lo (.int v :: st) μ) : V G l own cc nL dep lg ret Q pc lo (st) μ := by
  subst hn
  intro p e R s m args below meth c H locs cells slots Qf ls hC hH hL hF
  exact lv_ldcw hC.1 hC.2.1 hC.2.2.2.1 (hC.2.2.2.2.1 _ (mTT hw rfl)) hdg (k p e R s m args below meth c H locs cells slots Qf ls hC hH hL hF)
theorem R_iload {i : Nat} {x : Int32} (hdg : decode cc pc = .ok (.iload i, 2)) (hl : lo[i]? = some (some (.int x))) (hn : pc + 2 = n) (k : V G l own cc nL dep lg ret Q n lo (.int x :: st) μ) : V G l own cc nL dep lg ret Q pc lo (st) μ := by
  subst hn
  intro p e R s m args below meth c H locs cells slots Qf ls hC hH hL hF
  exact lv_iload hC.1 hC.2.1 hdg (hL.2.2 _ _ hl).1 (k p e R s m args below meth c H locs cells slots Qf ls hC hH hL hF)
theorem R_aload {i a : Nat} (hdg : decode cc pc = .ok (.aload i, 2)) (hl : lo[i]? = some (some (.ref a))) (hn : pc + 2 = n) (k : V G l own cc nL dep lg ret Q n lo (.ref a :: st) μ) : V G l own cc nL dep lg ret Q pc lo (st) μ := by
  subst hn
  intro p e R s m args below meth c H locs cells slots Qf ls hC hH hL hF
  exact lv_aload hC.1 hC.2.1 hdg (hL.2.2 _ _ hl).1 (k p e R s m args below meth c H locs cells slots Qf ls hC hH hL hF)
theorem R_lload {i : Nat} {x : Int64} (hdg : decode cc pc = .ok (.lload i, 2)) (hl : lo[i]? = some (some (.long x))) (hn : pc + 2 = n) (k : V G l own cc nL dep lg ret Q n lo (.long x :: st) μ) : V G l own cc nL dep lg ret Q pc lo (st) μ := by
  subst hn
  intro p e R s m args below meth c H locs cells slots Qf ls hC hH hL hF
  exact lv_lload hC.1 hC.2.1 hdg (hL.2.2 _ _ hl).1 (k p e R s m args below meth c H locs cells slots Qf ls hC hH hL hF)
theorem R_iload_n {j : Fin 4} {x : Int32} (hdg : decode cc pc = .ok (.iload_n j, 1)) (hl : lo[(j : Nat)]? = some (some (.int x))) (hn : pc + 1 = n) (k : V G l own cc nL dep lg ret Q n lo (.int x :: st) μ) : V G l own cc nL dep lg ret Q pc lo (st) μ := by
  subst hn
  intro p e R s m args below meth c H locs cells slots Qf ls hC hH hL hF
  exact lv_iload_n hC.1 hC.2.1 hdg rfl (hL.2.2 _ _ hl).1 (k p e R s m args below meth c H locs cells slots Qf ls hC hH hL hF)
theorem R_aload_n {j : Fin 4} {x : Nat} (hdg : decode cc pc = .ok (.aload_n j, 1)) (hl : lo[(j : Nat)]? = some (some (.ref x))) (hn : pc + 1 = n) (k : V G l own cc nL dep lg ret Q n lo (.ref x :: st) μ) : V G l own cc nL dep lg ret Q pc lo (st) μ := by
  subst hn
  intro p e R s m args below meth c H locs cells slots Qf ls hC hH hL hF
  exact lv_aload_n hC.1 hC.2.1 hdg rfl (hL.2.2 _ _ hl).1 (k p e R s m args below meth c H locs cells slots Qf ls hC hH hL hF)
theorem R_lload_n {j : Fin 4} {x : Int64} (hdg : decode cc pc = .ok (.lload_n j, 1)) (hl : lo[(j : Nat)]? = some (some (.long x))) (hn : pc + 1 = n) (k : V G l own cc nL dep lg ret Q n lo (.long x :: st) μ) : V G l own cc nL dep lg ret Q pc lo (st) μ := by
  subst hn
  intro p e R s m args below meth c H locs cells slots Qf ls hC hH hL hF
  exact lv_lload_n hC.1 hC.2.1 hdg rfl (hL.2.2 _ _ hl).1 (k p e R s m args below meth c H locs cells slots Qf ls hC hH hL hF)
theorem R_if_eq {x : Int32} {off : Int} {tgt : Nat} (hdg : decode cc pc = .ok (.ifCond .eq off, 3)) (ht : (pc : Int) + off = (tgt : Int)) (hn : pc + 3 = n) (kt : x = 0 → V G l own cc nL dep lg ret Q tgt lo st μ) (kf : ¬ (x = 0) → V G l own cc nL dep lg ret Q n lo st μ) : V G l own cc nL dep lg ret Q pc lo (.int x :: st) μ := by
  subst hn
  intro p e R s m args below meth c H locs cells slots Qf ls hC hH hL hF
  exact lv_if_eq hC.1 hC.2.1 hdg ht (fun h => kt h p e R s m args below meth c H locs cells slots Qf ls hC hH hL hF) (fun h => kf h p e R s m args below meth c H locs cells slots Qf ls hC hH hL hF)
theorem R_if_eq_t {x : Int32} {off : Int} {tgt : Nat} (hdg : decode cc pc = .ok (.ifCond .eq off, 3)) (ht : (pc : Int) + off = (tgt : Int)) (h : x = 0) (kt : V G l own cc nL dep lg ret Q tgt lo st μ) : V G l own cc nL dep lg ret Q pc lo (.int x :: st) μ :=
  R_if_eq hdg ht rfl (fun _ => kt) (fun q => (q h).elim)
theorem R_if_eq_f {x : Int32} {off : Int} {tgt : Nat} (hdg : decode cc pc = .ok (.ifCond .eq off, 3)) (ht : (pc : Int) + off = (tgt : Int)) (hn : pc + 3 = n) (h : ¬ (x = 0)) (kf : V G l own cc nL dep lg ret Q n lo st μ) : V G l own cc nL dep lg ret Q pc lo (.int x :: st) μ :=
  R_if_eq hdg ht hn (fun q => (h q).elim) (fun _ => kf)
theorem R_icmp_eq {x y : Int32} {off : Int} {tgt : Nat} (hdg : decode cc pc = .ok (.if_icmp .eq off, 3)) (ht : (pc : Int) + off = (tgt : Int)) (hn : pc + 3 = n) (kt : x = y → V G l own cc nL dep lg ret Q tgt lo st μ) (kf : ¬ (x = y) → V G l own cc nL dep lg ret Q n lo st μ) : V G l own cc nL dep lg ret Q pc lo (.int y :: .int x :: st) μ := by
  subst hn
  intro p e R s m args below meth c H locs cells slots Qf ls hC hH hL hF
  exact lv_icmp_eq hC.1 hC.2.1 hdg ht (fun h => kt h p e R s m args below meth c H locs cells slots Qf ls hC hH hL hF) (fun h => kf h p e R s m args below meth c H locs cells slots Qf ls hC hH hL hF)
theorem R_icmp_eq_t {x y : Int32} {off : Int} {tgt : Nat} (hdg : decode cc pc = .ok (.if_icmp .eq off, 3)) (ht : (pc : Int) + off = (tgt : Int)) (h : x = y) (kt : V G l own cc nL dep lg ret Q tgt lo st μ) : V G l own cc nL dep lg ret Q pc lo (.int y :: .int x :: st) μ :=
  R_icmp_eq hdg ht rfl (fun _ => kt) (fun q => (q h).elim)
theorem R_icmp_eq_f {x y : Int32} {off : Int} {tgt : Nat} (hdg : decode cc pc = .ok (.if_icmp .eq off, 3)) (ht : (pc : Int) + off = (tgt : Int)) (hn : pc + 3 = n) (h : ¬ (x = y)) (kf : V G l own cc nL dep lg ret Q n lo st μ) : V G l own cc nL dep lg ret Q pc lo (.int y :: .int x :: st) μ :=
  R_icmp_eq hdg ht hn (fun q => (h q).elim) (fun _ => kf)
theorem R_if_ne {x : Int32} {off : Int} {tgt : Nat} (hdg : decode cc pc = .ok (.ifCond .ne off, 3)) (ht : (pc : Int) + off = (tgt : Int)) (hn : pc + 3 = n) (kt : ¬ x = 0 → V G l own cc nL dep lg ret Q tgt lo st μ) (kf : x = 0 → V G l own cc nL dep lg ret Q n lo st μ) : V G l own cc nL dep lg ret Q pc lo (.int x :: st) μ := by
  subst hn
  intro p e R s m args below meth c H locs cells slots Qf ls hC hH hL hF
  exact lv_if_ne hC.1 hC.2.1 hdg ht (fun h => kt h p e R s m args below meth c H locs cells slots Qf ls hC hH hL hF) (fun h => kf h p e R s m args below meth c H locs cells slots Qf ls hC hH hL hF)
theorem R_if_ne_t {x : Int32} {off : Int} {tgt : Nat} (hdg : decode cc pc = .ok (.ifCond .ne off, 3)) (ht : (pc : Int) + off = (tgt : Int)) (h : ¬ x = 0) (kt : V G l own cc nL dep lg ret Q tgt lo st μ) : V G l own cc nL dep lg ret Q pc lo (.int x :: st) μ :=
  R_if_ne hdg ht rfl (fun _ => kt) (fun q => (h q).elim)
theorem R_if_ne_f {x : Int32} {off : Int} {tgt : Nat} (hdg : decode cc pc = .ok (.ifCond .ne off, 3)) (ht : (pc : Int) + off = (tgt : Int)) (hn : pc + 3 = n) (h : x = 0) (kf : V G l own cc nL dep lg ret Q n lo st μ) : V G l own cc nL dep lg ret Q pc lo (.int x :: st) μ :=
  R_if_ne hdg ht hn (fun q => (q h).elim) (fun _ => kf)
theorem R_icmp_ne {x y : Int32} {off : Int} {tgt : Nat} (hdg : decode cc pc = .ok (.if_icmp .ne off, 3)) (ht : (pc : Int) + off = (tgt : Int)) (hn : pc + 3 = n) (kt : ¬ x = y → V G l own cc nL dep lg ret Q tgt lo st μ) (kf : x = y → V G l own cc nL dep lg ret Q n lo st μ) : V G l own cc nL dep lg ret Q pc lo (.int y :: .int x :: st) μ := by
  subst hn
  intro p e R s m args below meth c H locs cells slots Qf ls hC hH hL hF
  exact lv_icmp_ne hC.1 hC.2.1 hdg ht (fun h => kt h p e R s m args below meth c H locs cells slots Qf ls hC hH hL hF) (fun h => kf h p e R s m args below meth c H locs cells slots Qf ls hC hH hL hF)
theorem R_icmp_ne_t {x y : Int32} {off : Int} {tgt : Nat} (hdg : decode cc pc = .ok (.if_icmp .ne off, 3)) (ht : (pc : Int) + off = (tgt : Int)) (h : ¬ x = y) (kt : V G l own cc nL dep lg ret Q tgt lo st μ) : V G l own cc nL dep lg ret Q pc lo (.int y :: .int x :: st) μ :=
  R_icmp_ne hdg ht rfl (fun _ => kt) (fun q => (h q).elim)
theorem R_icmp_ne_f {x y : Int32} {off : Int} {tgt : Nat} (hdg : decode cc pc = .ok (.if_icmp .ne off, 3)) (ht : (pc : Int) + off = (tgt : Int)) (hn : pc + 3 = n) (h : x = y) (kf : V G l own cc nL dep lg ret Q n lo st μ) : V G l own cc nL dep lg ret Q pc lo (.int y :: .int x :: st) μ :=
  R_icmp_ne hdg ht hn (fun q => (q h).elim) (fun _ => kf)
theorem R_if_lt {x : Int32} {off : Int} {tgt : Nat} (hdg : decode cc pc = .ok (.ifCond .lt off, 3)) (ht : (pc : Int) + off = (tgt : Int)) (hn : pc + 3 = n) (kt : x < 0 → V G l own cc nL dep lg ret Q tgt lo st μ) (kf : ¬ (x < 0) → V G l own cc nL dep lg ret Q n lo st μ) : V G l own cc nL dep lg ret Q pc lo (.int x :: st) μ := by
  subst hn
  intro p e R s m args below meth c H locs cells slots Qf ls hC hH hL hF
  exact lv_if_lt hC.1 hC.2.1 hdg ht (fun h => kt h p e R s m args below meth c H locs cells slots Qf ls hC hH hL hF) (fun h => kf h p e R s m args below meth c H locs cells slots Qf ls hC hH hL hF)
theorem R_if_lt_t {x : Int32} {off : Int} {tgt : Nat} (hdg : decode cc pc = .ok (.ifCond .lt off, 3)) (ht : (pc : Int) + off = (tgt : Int)) (h : x < 0) (kt : V G l own cc nL dep lg ret Q tgt lo st μ) : V G l own cc nL dep lg ret Q pc lo (.int x :: st) μ :=
  R_if_lt hdg ht rfl (fun _ => kt) (fun q => (q h).elim)
theorem R_if_lt_f {x : Int32} {off : Int} {tgt : Nat} (hdg : decode cc pc = .ok (.ifCond .lt off, 3)) (ht : (pc : Int) + off = (tgt : Int)) (hn : pc + 3 = n) (h : ¬ (x < 0)) (kf : V G l own cc nL dep lg ret Q n lo st μ) : V G l own cc nL dep lg ret Q pc lo (.int x :: st) μ :=
  R_if_lt hdg ht hn (fun q => (h q).elim) (fun _ => kf)
theorem R_icmp_lt {x y : Int32} {off : Int} {tgt : Nat} (hdg : decode cc pc = .ok (.if_icmp .lt off, 3)) (ht : (pc : Int) + off = (tgt : Int)) (hn : pc + 3 = n) (kt : x < y → V G l own cc nL dep lg ret Q tgt lo st μ) (kf : ¬ (x < y) → V G l own cc nL dep lg ret Q n lo st μ) : V G l own cc nL dep lg ret Q pc lo (.int y :: .int x :: st) μ := by
  subst hn
  intro p e R s m args below meth c H locs cells slots Qf ls hC hH hL hF
  exact lv_icmp_lt hC.1 hC.2.1 hdg ht (fun h => kt h p e R s m args below meth c H locs cells slots Qf ls hC hH hL hF) (fun h => kf h p e R s m args below meth c H locs cells slots Qf ls hC hH hL hF)
theorem R_icmp_lt_t {x y : Int32} {off : Int} {tgt : Nat} (hdg : decode cc pc = .ok (.if_icmp .lt off, 3)) (ht : (pc : Int) + off = (tgt : Int)) (h : x < y) (kt : V G l own cc nL dep lg ret Q tgt lo st μ) : V G l own cc nL dep lg ret Q pc lo (.int y :: .int x :: st) μ :=
  R_icmp_lt hdg ht rfl (fun _ => kt) (fun q => (q h).elim)
theorem R_icmp_lt_f {x y : Int32} {off : Int} {tgt : Nat} (hdg : decode cc pc = .ok (.if_icmp .lt off, 3)) (ht : (pc : Int) + off = (tgt : Int)) (hn : pc + 3 = n) (h : ¬ (x < y)) (kf : V G l own cc nL dep lg ret Q n lo st μ) : V G l own cc nL dep lg ret Q pc lo (.int y :: .int x :: st) μ :=
  R_icmp_lt hdg ht hn (fun q => (h q).elim) (fun _ => kf)
theorem R_if_ge {x : Int32} {off : Int} {tgt : Nat} (hdg : decode cc pc = .ok (.ifCond .ge off, 3)) (ht : (pc : Int) + off = (tgt : Int)) (hn : pc + 3 = n) (kt : 0 ≤ x → V G l own cc nL dep lg ret Q tgt lo st μ) (kf : ¬ (0 ≤ x) → V G l own cc nL dep lg ret Q n lo st μ) : V G l own cc nL dep lg ret Q pc lo (.int x :: st) μ := by
  subst hn
  intro p e R s m args below meth c H locs cells slots Qf ls hC hH hL hF
  exact lv_if_ge hC.1 hC.2.1 hdg ht (fun h => kt h p e R s m args below meth c H locs cells slots Qf ls hC hH hL hF) (fun h => kf h p e R s m args below meth c H locs cells slots Qf ls hC hH hL hF)
theorem R_if_ge_t {x : Int32} {off : Int} {tgt : Nat} (hdg : decode cc pc = .ok (.ifCond .ge off, 3)) (ht : (pc : Int) + off = (tgt : Int)) (h : 0 ≤ x) (kt : V G l own cc nL dep lg ret Q tgt lo st μ) : V G l own cc nL dep lg ret Q pc lo (.int x :: st) μ :=
  R_if_ge hdg ht rfl (fun _ => kt) (fun q => (q h).elim)
theorem R_if_ge_f {x : Int32} {off : Int} {tgt : Nat} (hdg : decode cc pc = .ok (.ifCond .ge off, 3)) (ht : (pc : Int) + off = (tgt : Int)) (hn : pc + 3 = n) (h : ¬ (0 ≤ x)) (kf : V G l own cc nL dep lg ret Q n lo st μ) : V G l own cc nL dep lg ret Q pc lo (.int x :: st) μ :=
  R_if_ge hdg ht hn (fun q => (h q).elim) (fun _ => kf)
theorem R_icmp_ge {x y : Int32} {off : Int} {tgt : Nat} (hdg : decode cc pc = .ok (.if_icmp .ge off, 3)) (ht : (pc : Int) + off = (tgt : Int)) (hn : pc + 3 = n) (kt : y ≤ x → V G l own cc nL dep lg ret Q tgt lo st μ) (kf : ¬ (y ≤ x) → V G l own cc nL dep lg ret Q n lo st μ) : V G l own cc nL dep lg ret Q pc lo (.int y :: .int x :: st) μ := by
  subst hn
  intro p e R s m args below meth c H locs cells slots Qf ls hC hH hL hF
  exact lv_icmp_ge hC.1 hC.2.1 hdg ht (fun h => kt h p e R s m args below meth c H locs cells slots Qf ls hC hH hL hF) (fun h => kf h p e R s m args below meth c H locs cells slots Qf ls hC hH hL hF)
theorem R_icmp_ge_t {x y : Int32} {off : Int} {tgt : Nat} (hdg : decode cc pc = .ok (.if_icmp .ge off, 3)) (ht : (pc : Int) + off = (tgt : Int)) (h : y ≤ x) (kt : V G l own cc nL dep lg ret Q tgt lo st μ) : V G l own cc nL dep lg ret Q pc lo (.int y :: .int x :: st) μ :=
  R_icmp_ge hdg ht rfl (fun _ => kt) (fun q => (q h).elim)
theorem R_icmp_ge_f {x y : Int32} {off : Int} {tgt : Nat} (hdg : decode cc pc = .ok (.if_icmp .ge off, 3)) (ht : (pc : Int) + off = (tgt : Int)) (hn : pc + 3 = n) (h : ¬ (y ≤ x)) (kf : V G l own cc nL dep lg ret Q n lo st μ) : V G l own cc nL dep lg ret Q pc lo (.int y :: .int x :: st) μ :=
  R_icmp_ge hdg ht hn (fun q => (h q).elim) (fun _ => kf)
theorem R_if_gt {x : Int32} {off : Int} {tgt : Nat} (hdg : decode cc pc = .ok (.ifCond .gt off, 3)) (ht : (pc : Int) + off = (tgt : Int)) (hn : pc + 3 = n) (kt : 0 < x → V G l own cc nL dep lg ret Q tgt lo st μ) (kf : ¬ (0 < x) → V G l own cc nL dep lg ret Q n lo st μ) : V G l own cc nL dep lg ret Q pc lo (.int x :: st) μ := by
  subst hn
  intro p e R s m args below meth c H locs cells slots Qf ls hC hH hL hF
  exact lv_if_gt hC.1 hC.2.1 hdg ht (fun h => kt h p e R s m args below meth c H locs cells slots Qf ls hC hH hL hF) (fun h => kf h p e R s m args below meth c H locs cells slots Qf ls hC hH hL hF)
theorem R_if_gt_t {x : Int32} {off : Int} {tgt : Nat} (hdg : decode cc pc = .ok (.ifCond .gt off, 3)) (ht : (pc : Int) + off = (tgt : Int)) (h : 0 < x) (kt : V G l own cc nL dep lg ret Q tgt lo st μ) : V G l own cc nL dep lg ret Q pc lo (.int x :: st) μ :=
  R_if_gt hdg ht rfl (fun _ => kt) (fun q => (q h).elim)
theorem R_if_gt_f {x : Int32} {off : Int} {tgt : Nat} (hdg : decode cc pc = .ok (.ifCond .gt off, 3)) (ht : (pc : Int) + off = (tgt : Int)) (hn : pc + 3 = n) (h : ¬ (0 < x)) (kf : V G l own cc nL dep lg ret Q n lo st μ) : V G l own cc nL dep lg ret Q pc lo (.int x :: st) μ :=
  R_if_gt hdg ht hn (fun q => (h q).elim) (fun _ => kf)
theorem R_icmp_gt {x y : Int32} {off : Int} {tgt : Nat} (hdg : decode cc pc = .ok (.if_icmp .gt off, 3)) (ht : (pc : Int) + off = (tgt : Int)) (hn : pc + 3 = n) (kt : y < x → V G l own cc nL dep lg ret Q tgt lo st μ) (kf : ¬ (y < x) → V G l own cc nL dep lg ret Q n lo st μ) : V G l own cc nL dep lg ret Q pc lo (.int y :: .int x :: st) μ := by
  subst hn
  intro p e R s m args below meth c H locs cells slots Qf ls hC hH hL hF
  exact lv_icmp_gt hC.1 hC.2.1 hdg ht (fun h => kt h p e R s m args below meth c H locs cells slots Qf ls hC hH hL hF) (fun h => kf h p e R s m args below meth c H locs cells slots Qf ls hC hH hL hF)
theorem R_icmp_gt_t {x y : Int32} {off : Int} {tgt : Nat} (hdg : decode cc pc = .ok (.if_icmp .gt off, 3)) (ht : (pc : Int) + off = (tgt : Int)) (h : y < x) (kt : V G l own cc nL dep lg ret Q tgt lo st μ) : V G l own cc nL dep lg ret Q pc lo (.int y :: .int x :: st) μ :=
  R_icmp_gt hdg ht rfl (fun _ => kt) (fun q => (q h).elim)
theorem R_icmp_gt_f {x y : Int32} {off : Int} {tgt : Nat} (hdg : decode cc pc = .ok (.if_icmp .gt off, 3)) (ht : (pc : Int) + off = (tgt : Int)) (hn : pc + 3 = n) (h : ¬ (y < x)) (kf : V G l own cc nL dep lg ret Q n lo st μ) : V G l own cc nL dep lg ret Q pc lo (.int y :: .int x :: st) μ :=
  R_icmp_gt hdg ht hn (fun q => (h q).elim) (fun _ => kf)
theorem R_if_le {x : Int32} {off : Int} {tgt : Nat} (hdg : decode cc pc = .ok (.ifCond .le off, 3)) (ht : (pc : Int) + off = (tgt : Int)) (hn : pc + 3 = n) (kt : x ≤ 0 → V G l own cc nL dep lg ret Q tgt lo st μ) (kf : ¬ (x ≤ 0) → V G l own cc nL dep lg ret Q n lo st μ) : V G l own cc nL dep lg ret Q pc lo (.int x :: st) μ := by
  subst hn
  intro p e R s m args below meth c H locs cells slots Qf ls hC hH hL hF
  exact lv_if_le hC.1 hC.2.1 hdg ht (fun h => kt h p e R s m args below meth c H locs cells slots Qf ls hC hH hL hF) (fun h => kf h p e R s m args below meth c H locs cells slots Qf ls hC hH hL hF)
theorem R_if_le_t {x : Int32} {off : Int} {tgt : Nat} (hdg : decode cc pc = .ok (.ifCond .le off, 3)) (ht : (pc : Int) + off = (tgt : Int)) (h : x ≤ 0) (kt : V G l own cc nL dep lg ret Q tgt lo st μ) : V G l own cc nL dep lg ret Q pc lo (.int x :: st) μ :=
  R_if_le hdg ht rfl (fun _ => kt) (fun q => (q h).elim)
theorem R_if_le_f {x : Int32} {off : Int} {tgt : Nat} (hdg : decode cc pc = .ok (.ifCond .le off, 3)) (ht : (pc : Int) + off = (tgt : Int)) (hn : pc + 3 = n) (h : ¬ (x ≤ 0)) (kf : V G l own cc nL dep lg ret Q n lo st μ) : V G l own cc nL dep lg ret Q pc lo (.int x :: st) μ :=
  R_if_le hdg ht hn (fun q => (h q).elim) (fun _ => kf)
theorem R_icmp_le {x y : Int32} {off : Int} {tgt : Nat} (hdg : decode cc pc = .ok (.if_icmp .le off, 3)) (ht : (pc : Int) + off = (tgt : Int)) (hn : pc + 3 = n) (kt : x ≤ y → V G l own cc nL dep lg ret Q tgt lo st μ) (kf : ¬ (x ≤ y) → V G l own cc nL dep lg ret Q n lo st μ) : V G l own cc nL dep lg ret Q pc lo (.int y :: .int x :: st) μ := by
  subst hn
  intro p e R s m args below meth c H locs cells slots Qf ls hC hH hL hF
  exact lv_icmp_le hC.1 hC.2.1 hdg ht (fun h => kt h p e R s m args below meth c H locs cells slots Qf ls hC hH hL hF) (fun h => kf h p e R s m args below meth c H locs cells slots Qf ls hC hH hL hF)
theorem R_icmp_le_t {x y : Int32} {off : Int} {tgt : Nat} (hdg : decode cc pc = .ok (.if_icmp .le off, 3)) (ht : (pc : Int) + off = (tgt : Int)) (h : x ≤ y) (kt : V G l own cc nL dep lg ret Q tgt lo st μ) : V G l own cc nL dep lg ret Q pc lo (.int y :: .int x :: st) μ :=
  R_icmp_le hdg ht rfl (fun _ => kt) (fun q => (q h).elim)
theorem R_icmp_le_f {x y : Int32} {off : Int} {tgt : Nat} (hdg : decode cc pc = .ok (.if_icmp .le off, 3)) (ht : (pc : Int) + off = (tgt : Int)) (hn : pc + 3 = n) (h : ¬ (x ≤ y)) (kf : V G l own cc nL dep lg ret Q n lo st μ) : V G l own cc nL dep lg ret Q pc lo (.int y :: .int x :: st) μ :=
  R_icmp_le hdg ht hn (fun q => (h q).elim) (fun _ => kf)
theorem R_goto {off : Int} {tgt : Nat} (hdg : decode cc pc = .ok (.goto off, 3)) (ht : (pc : Int) + off = (tgt : Int)) (k : V G l own cc nL dep lg ret Q tgt lo st μ) : V G l own cc nL dep lg ret Q pc lo st μ := by
  intro p e R s m args below meth c H locs cells slots Qf ls hC hH hL hF
  exact lv_goto hC.1 hC.2.1 hdg ht (k p e R s m args below meth c H locs cells slots Qf ls hC hH hL hF)
theorem R_tableOut {dflt l0 hi : Int} {offs : Array Int} {len : Nat} {x : Int32} {tgt : Nat} (hdg : decode cc pc = .ok (.tableswitch dflt l0 hi offs, len)) (h : x.toInt < l0 ∨ hi < x.toInt) (ht : (pc : Int) + dflt = (tgt : Int)) (k : V G l own cc nL dep lg ret Q tgt lo st μ) : V G l own cc nL dep lg ret Q pc lo (.int x :: st) μ := by
  intro p e R s m args below meth c H locs cells slots Qf ls hC hH hL hF
  exact lv_tableOut hC.1 hC.2.1 hdg h ht (k p e R s m args below meth c H locs cells slots Qf ls hC hH hL hF)
theorem R_tableIn {dflt l0 hi : Int} {offs : Array Int} {len : Nat} {x : Int32} {off : Int} {tgt : Nat} (hdg : decode cc pc = .ok (.tableswitch dflt l0 hi offs, len)) (h1 : ¬ x.toInt < l0) (h2 : ¬ hi < x.toInt) (ho : offs[(x.toInt - l0).toNat]? = some off) (ht : (pc : Int) + off = (tgt : Int)) (k : V G l own cc nL dep lg ret Q tgt lo st μ) : V G l own cc nL dep lg ret Q pc lo (.int x :: st) μ := by
  intro p e R s m args below meth c H locs cells slots Qf ls hC hH hL hF
  exact lv_tableIn hC.1 hC.2.1 hdg h1 h2 ho ht (k p e R s m args below meth c H locs cells slots Qf ls hC hH hL hF)
def prs : Nat → List (Option Value) → List (Nat × Value)
  | _, [] => []
  | i, none :: t => prs (i + 1) t
  | i, some v :: t => (i, v) :: prs (i + 1) t
theorem prs_mem (i : Nat) (v : Value) : ∀ (lo : List (Option Value)) (b : Nat), (b + i, v) ∈ prs b lo ↔ lo[i]? = some (some v)
  | [], b => by simp [prs]
  | o :: t, b => by
    have key : ∀ (lo : List (Option Value)) (b j : Nat) (v : Value), (j, v) ∈ prs b lo → b ≤ j := by
      intro lo
      induction lo with
      | nil => intro b j v h; simp [prs] at h
      | cons o t ih =>
        intro b j v h
        cases o with
        | none => exact Nat.le_trans (Nat.le_succ b) (ih _ _ _ h)
        | some w =>
          rcases List.mem_cons.mp h with h | h
          · cases h; exact Nat.le_refl _
          · exact Nat.le_trans (Nat.le_succ b) (ih _ _ _ h)
    cases i with
    | zero =>
      cases o with
      | none =>
        constructor
        · intro h; exact absurd (key _ _ _ _ (show (b + 0, v) ∈ prs (b + 1) t from h)) (by omega)
        · intro h; simp at h
      | some w =>
        constructor
        · intro h
          rcases List.mem_cons.mp (show (b + 0, v) ∈ (b, w) :: prs (b + 1) t from h) with h | h
          · cases h; rfl
          · exact absurd (key _ _ _ _ h) (by omega)
        · intro h
          have : w = v := by simpa using h
          subst this
          exact List.mem_cons_self
    | succ i =>
      have ih := prs_mem i v t (b + 1)
      have e : b + (i + 1) = b + 1 + i := by omega
      rw [e, List.getElem?_cons_succ]
      cases o with
      | none => exact ih
      | some w =>
        constructor
        · intro h
          rcases List.mem_cons.mp (show (b + 1 + i, v) ∈ (b, w) :: prs (b + 1) t from h) with h | h
          · exact absurd (congrArg Prod.fst h) (by simp; omega)
          · exact ih.mp h
        · intro h; exact List.mem_cons_of_mem _ (ih.mpr h)
theorem lm_has {ls : Array Slot} (h : lm lg ls nL lo) : lv_has ls nL (prs 0 lo) := ⟨h.1, h.2.1, fun q hq => (h.2.2 q.1 q.2 ((prs_mem q.1 q.2 lo 0).mp (by rw [Nat.zero_add]; exact hq))).1⟩
theorem lm_of {ls : Array Slot} (h : lm false ls nL lo) {i : Nat} (hi : i < lo.length) {v : Value} (hv : v.category = 1) {ls' : Array Slot} (h' : lv_has ls' nL ((i, v) :: (prs 0 lo).filter (fun q => !(q.1 == i) && !(q.1 + 1 == i && q.2.category == 2)))) : lm false ls' nL (lo.set i (some v)) := by
  refine ⟨h'.1, h'.2.1, fun j w hj => ?_⟩
  by_cases e : i = j
  · subst e
    rw [List.getElem?_set_self hi] at hj
    cases hj
    exact ⟨h'.2.2 _ List.mem_cons_self, fun _ => hv⟩
  · rw [List.getElem?_set_ne e] at hj
    have hc := (h.2.2 j w hj).2 rfl
    refine ⟨h'.2.2 (j, w) (List.mem_cons_of_mem _ (List.mem_filter.mpr ⟨?_, ?_⟩)), fun _ => hc⟩
    · have := (prs_mem j w lo 0).mpr hj
      rwa [Nat.zero_add] at this
    · have e' : ¬ j = i := fun z => e z.symm
      simp [e', hc]
theorem R_istore {i : Nat} {x : Int32} (hdg : decode cc pc = .ok (.istore i, 2)) (hn : pc + 2 = n) (hi : i < lo.length) (hi2 : i < nL) (k : V G l own cc nL dep false ret Q n (lo.set i (some (.int x))) st μ) : V G l own cc nL dep false ret Q pc lo (.int x :: st) μ := by
  subst hn
  intro p e R s m args below meth c H locs cells slots Qf ls hC hH hL hF
  exact lv_istore hC.1 hC.2.1 hdg (lm_has hL) hi2 rfl (fun ls' h' => k p e R s m args below meth c H locs cells slots Qf ls' hC hH (lm_of hL hi rfl h') hF)
theorem R_istore_n {j : Fin 4} {x : Int32} (hdg : decode cc pc = .ok (.istore_n j, 1)) (hn : pc + 1 = n) (hi : (j : Nat) < lo.length) (hi2 : (j : Nat) < nL) (k : V G l own cc nL dep false ret Q n (lo.set (j : Nat) (some (.int x))) st μ) : V G l own cc nL dep false ret Q pc lo (.int x :: st) μ := by
  subst hn
  intro p e R s m args below meth c H locs cells slots Qf ls hC hH hL hF
  exact lv_istore_n hC.1 hC.2.1 hdg rfl (lm_has hL) hi2 rfl (fun ls' h' => k p e R s m args below meth c H locs cells slots Qf ls' hC hH (lm_of hL hi rfl h') hF)
theorem R_astore {i : Nat} {x : Nat} (hdg : decode cc pc = .ok (.astore i, 2)) (hn : pc + 2 = n) (hi : i < lo.length) (hi2 : i < nL) (k : V G l own cc nL dep false ret Q n (lo.set i (some (.ref x))) st μ) : V G l own cc nL dep false ret Q pc lo (.ref x :: st) μ := by
  subst hn
  intro p e R s m args below meth c H locs cells slots Qf ls hC hH hL hF
  exact lv_astore hC.1 hC.2.1 hdg (lm_has hL) hi2 rfl (fun ls' h' => k p e R s m args below meth c H locs cells slots Qf ls' hC hH (lm_of hL hi rfl h') hF)
theorem R_astore_n {j : Fin 4} {x : Nat} (hdg : decode cc pc = .ok (.astore_n j, 1)) (hn : pc + 1 = n) (hi : (j : Nat) < lo.length) (hi2 : (j : Nat) < nL) (k : V G l own cc nL dep false ret Q n (lo.set (j : Nat) (some (.ref x))) st μ) : V G l own cc nL dep false ret Q pc lo (.ref x :: st) μ := by
  subst hn
  intro p e R s m args below meth c H locs cells slots Qf ls hC hH hL hF
  exact lv_astore_n hC.1 hC.2.1 hdg rfl (lm_has hL) hi2 rfl (fun ls' h' => k p e R s m args below meth c H locs cells slots Qf ls' hC hH (lm_of hL hi rfl h') hF)
theorem R_iinc {i : Nat} {d : Int} {x v : Int32} (hdg : decode cc pc = .ok (.iinc i d, 3)) (hn : pc + 3 = n) (hl : lo[i]? = some (some (.int x))) (hv : x + Int32.ofInt d = v) (hi2 : i < nL) (k : V G l own cc nL dep false ret Q n (lo.set i (some (.int v))) st μ) : V G l own cc nL dep false ret Q pc lo st μ := by
  subst hn
  intro p e R s m args below meth c H locs cells slots Qf ls hC hH hL hF
  obtain ⟨j, hj⟩ := List.getElem?_of_mem (show (i, Value.int x) ∈ prs 0 lo from by have := (prs_mem i (.int x) lo 0).mpr hl; rwa [Nat.zero_add] at this)
  exact lv_iinc hC.1 hC.2.1 hdg (lm_has hL) hj hv hi2 rfl (fun ls' h' => k p e R s m args below meth c H locs cells slots Qf ls' hC hH (lm_of hL (List.getElem?_eq_some_iff.mp hl).1 rfl h') hF)
/-- a local that is no longer wanted may be anything -/
theorem V.drop {lo' : List (Option Value)} (h : ∀ (i : Nat) (v : Value), lo'[i]? = some (some v) → lo[i]? = some (some v)) (k : V G l own cc nL dep lg ret Q pc lo' st μ) : V G l own cc nL dep lg ret Q pc lo st μ := by
  intro p e R s m args below meth c H locs cells slots Qf ls hC hH hL hF
  exact k p e R s m args below meth c H locs cells slots Qf ls hC hH ⟨hL.1, hL.2.1, fun i v hi => hL.2.2 i v (h i v hi)⟩ hF
/-- the end may be told weaker -/
theorem V.mono {Q' : Option Value → Mem → Prop} (h : ∀ r μ', Q' r μ' → Q r μ') (k : V G l own cc nL dep lg ret Q' pc lo st μ) : V G l own cc nL dep lg ret Q pc lo st μ := by
  intro p e R s m args below meth c H locs cells slots Qf ls hC hH hL hF
  exact k p e R s m args below meth c H locs cells slots Qf ls hC hH hL (fun r μ' H' locs' ls' pc' q => hF r μ' H' locs' ls' pc' (h r μ' q))
theorem V.eqμ {μ' : Mem} (h : μ = μ') (k : V G l own cc nL dep lg ret Q pc lo st μ') : V G l own cc nL dep lg ret Q pc lo st μ := h ▸ k
theorem V.eqs {st' : List Value} (h : st = st') (k : V G l own cc nL dep lg ret Q pc lo st' μ) : V G l own cc nL dep lg ret Q pc lo st μ := h ▸ k
/-! returns -/
theorem R_iret {x : Int32} {ty : FieldType} (hdg : decode cc pc = .ok (.ireturn, 1)) (hr : ret = some ty) (hn : narrow ty (.int x) = .int x) (hq : Q (some (.int x)) μ) : V G l own cc nL dep lg ret Q pc lo [.int x] μ := by
  intro p e R s m args below meth c H locs cells slots Qf ls hC hH hL hF
  exact hF _ _ _ _ _ _ hq hH (Or.inl ⟨x, rfl, hdg, ty, hr, hn⟩)
theorem R_lret {x : Int64} (hdg : decode cc pc = .ok (.lreturn, 1)) (hr : ret = some .long) (hq : Q (some (.long x)) μ) : V G l own cc nL dep lg ret Q pc lo [.long x] μ := by
  intro p e R s m args below meth c H locs cells slots Qf ls hC hH hL hF
  exact hF _ _ _ _ _ _ hq hH (Or.inr (Or.inl ⟨x, rfl, hdg, hr⟩))
theorem R_aret {a : Nat} {cn : String} (hdg : decode cc pc = .ok (.areturn, 1)) (hr : ret = some (.object cn)) (hq : Q (some (.ref a)) μ) : V G l own cc nL dep lg ret Q pc lo [.ref a] μ := by
  intro p e R s m args below meth c H locs cells slots Qf ls hC hH hL hF
  exact hF _ _ _ _ _ _ hq hH (Or.inr (Or.inr (Or.inl ⟨a, cn, rfl, hdg, hr⟩)))
theorem R_ret (hdg : decode cc pc = .ok (.return_, 1)) (hr : ret = none) (hq : Q none μ) : V G l own cc nL dep lg ret Q pc lo [] μ := by
  intro p e R s m args below meth c H locs cells slots Qf ls hC hH hL hF
  exact hF _ _ _ _ _ _ hq hH (Or.inr (Or.inr (Or.inr ⟨rfl, hdg, hr⟩)))
/-! fields and arrays -/
theorem ce_obj (G : Gm) (μ : Mem) {id ci : Nat} {fs : List (Option (Option Nat))} (hs : sh id = .inl (ci, fs)) : (wl G μ)[id]? = some (G.2.2.1 id, .inr (ci, fs.mapIdx (fun k f => fv G.2.2.1 μ id k f))) := by
  rw [wl_get G μ (sh_lt (by rw [hs]; intro z; cases z)), hs]
  rfl
theorem ce_arr (G : Gm) (μ : Mem) {id t n : Nat} (hs : sh id = .inr (.inl (t, n))) : (wl G μ)[id]? = some (G.2.2.1 id, .inl (tyc G t, n, .inl (μ.1 id))) := by
  rw [wl_get G μ (sh_lt (by rw [hs]; intro z; cases z)), hs]
  rfl
theorem R_get {ci j N : Nat} {C : String} {T : u_T} {ix id : Nat} {fs : List (Option (Option Nat))} {kd : Option (Option Nat)} (hc : classes[ci]? = some (C, T, N)) (hin : ∀ w ∈ u_ws C T N, w ∈ lw_tbl) (hj : j < N) (hT : (T j).1 = C) (hlink : Cond.fieldLink own ix C (T j).2.1 (T j).2.2.1 ∈ lw_tbl) (hs : sh id = .inl (ci, fs)) (hf : fs[j]? = some kd) (hdg : decode cc pc = .ok (.getfield ix, 3)) (hn : pc + 3 = n) (k : V G l own cc nL dep lg ret Q n lo (fv G.2.2.1 μ id j kd :: st) μ) : V G l own cc nL dep lg ret Q pc lo (.ref (G.2.2.1 id) :: st) μ := by
  subst hn
  intro p e R s m args below meth c H locs cells slots Qf ls hC hH hL hF
  have hg : ∀ w ∈ u_ws C T N, w ∈ TT := fun w h => mTT (hin w h) (by obtain ⟨q, -, rfl⟩ := List.mem_map.mp h; unfold u_lay; split <;> rfl)
  exact va_get hC.1 hC.2.1 hC.2.2.2.2.1 hg hC.2.2.2.1 hC.2.2.2.2.2.1 hH.1 id (ce_obj G μ hs) hc j hj (hC.2.2.2.2.1 _ (mTT hlink rfl)) (fun x hx => by rw [hT] at hx; exact hx) (by rw [List.getElem?_mapIdx, hf]; rfl) hdg (k p e R s m args below meth c H locs cells slots Qf ls hC hH hL hF)
theorem R_put {ci j N : Nat} {C : String} {T : u_T} {ix id : Nat} {fs : List (Option (Option Nat))} {tyf : Nat → FieldType} (hc : classes[ci]? = some (C, T, N)) (hin : ∀ w ∈ u_ws C T N, w ∈ lw_tbl) (hty : ∀ k, k < N → parseFieldDescriptor (T k).2.2.1 = some (tyf k)) (hnm : ∀ a, a < N → ∀ b, b < N → a ≠ b → (T a).2.1 ≠ (T b).2.1) (hj : j < N) (hT : (T j).1 = C) (hlink : Cond.fieldLink own ix C (T j).2.1 (T j).2.2.1 ∈ lw_tbl) (hfin : (T j).2.2.2 = false) (hint : tyf j = .int) (hs : sh id = .inl (ci, fs)) (hf : fs[j]? = some none) {x : Int32} (hdg : decode cc pc = .ok (.putfield ix, 3)) (hn : pc + 3 = n) (k : V G l own cc nL dep lg ret Q n lo st (sti μ id j x)) : V G l own cc nL dep lg ret Q pc lo (.int x :: .ref (G.2.2.1 id) :: st) μ := by
  subst hn
  intro p e R s m args below meth c H locs cells slots Qf ls hC hH hL hF
  have hg : ∀ w ∈ u_ws C T N, w ∈ TT := fun w h => mTT (hin w h) (by obtain ⟨q, -, rfl⟩ := List.mem_map.mp h; unfold u_lay; split <;> rfl)
  refine va_put hC.1 hC.2.1 hC.2.2.2.2.1 hg tyf hty hnm hC.2.2.2.1 hC.2.2.2.2.2.1 hH.1 hH.2.1 hH.2.2 id (ce_obj G μ hs) hc j hj (hC.2.2.2.2.1 _ (mTT hlink rfl)) (fun x hx => by rw [hT] at hx; exact hx) hfin (ty := .int) (by rw [hty j hj, hint]) rfl rfl (by rw [List.length_mapIdx]; exact (List.getElem?_eq_some_iff.mp hf).1) hdg (fun H1 locs1 hP hD hS => ?_)
  rw [wl_setf G μ hs hf] at hP hD
  exact k p e R s m args below meth c H1 locs1 cells slots Qf ls hC ⟨hP, hD, hS⟩ hL hF
theorem R_putl {ci j N : Nat} {C : String} {T : u_T} {ix id : Nat} {fs : List (Option (Option Nat))} {tyf : Nat → FieldType} (hc : classes[ci]? = some (C, T, N)) (hin : ∀ w ∈ u_ws C T N, w ∈ lw_tbl) (hty : ∀ k, k < N → parseFieldDescriptor (T k).2.2.1 = some (tyf k)) (hnm : ∀ a, a < N → ∀ b, b < N → a ≠ b → (T a).2.1 ≠ (T b).2.1) (hj : j < N) (hT : (T j).1 = C) (hlink : Cond.fieldLink own ix C (T j).2.1 (T j).2.2.1 ∈ lw_tbl) (hfin : (T j).2.2.2 = false) (hint : tyf j = .long) (hs : sh id = .inl (ci, fs)) (hf : fs[j]? = some (some none)) (h1 : ∀ i, fs[i]? = some (some none) → i = j) {x : Int64} (hdg : decode cc pc = .ok (.putfield ix, 3)) (hn : pc + 3 = n) (k : V G l own cc nL dep lg ret Q n lo st (stl μ id x)) : V G l own cc nL dep lg ret Q pc lo (.long x :: .ref (G.2.2.1 id) :: st) μ := by
  subst hn
  intro p e R s m args below meth c H locs cells slots Qf ls hC hH hL hF
  have hg : ∀ w ∈ u_ws C T N, w ∈ TT := fun w h => mTT (hin w h) (by obtain ⟨q, -, rfl⟩ := List.mem_map.mp h; unfold u_lay; split <;> rfl)
  refine va_put hC.1 hC.2.1 hC.2.2.2.2.1 hg tyf hty hnm hC.2.2.2.1 hC.2.2.2.2.2.1 hH.1 hH.2.1 hH.2.2 id (ce_obj G μ hs) hc j hj (hC.2.2.2.2.1 _ (mTT hlink rfl)) (fun x hx => by rw [hT] at hx; exact hx) hfin (ty := .long) (by rw [hty j hj, hint]) rfl rfl (by rw [List.length_mapIdx]; exact (List.getElem?_eq_some_iff.mp hf).1) hdg (fun H1 locs1 hP hD hS => ?_)
  rw [wl_setl G μ hs hf h1] at hP hD
  exact k p e R s m args below meth c H1 locs1 cells slots Qf ls hC ⟨hP, hD, hS⟩ hL hF
theorem vn_of {i : Int32} {j N : Nat} (hi : i = nI j) (hj : j < N) (hN : N < 2 ^ 31) : vp_in i N ∧ i.toNatClampNeg = j := by
  subst hi
  exact ⟨nI_in hj hN, nI_clamp (Nat.lt_trans hj hN)⟩
theorem R_iald {id N j : Nat} {i : Int32} (hs : sh id = .inr (.inl (0, N))) (hi : i = nI j) (hj : j < N) (hdg : decode cc pc = .ok (.iaload, 1)) (hn : pc + 1 = n) (k : V G l own cc nL dep lg ret Q n lo (.int (μ.1 id j) :: st) μ) : V G l own cc nL dep lg ret Q pc lo (.int i :: .ref (G.2.2.1 id) :: st) μ := by
  subst hn
  intro p e R s m args below meth c H locs cells slots Qf ls hC hH hL hF
  obtain ⟨h1, h2⟩ := vn_of hi hj (sh_small hs)
  exact va_iald hC.1 hC.2.1 hC.2.2.2.2.2.1 hH.1 id 0 (ce_arr G μ hs) rfl h1 hdg (by rw [h2]; exact k p e R s m args below meth c H locs cells slots Qf ls hC hH hL hF)
theorem R_zald {id N j : Nat} {i : Int32} (hs : sh id = .inr (.inl (1, N))) (hi : i = nI j) (hj : j < N) (hdg : decode cc pc = .ok (.baload, 1)) (hn : pc + 1 = n) (k : V G l own cc nL dep lg ret Q n lo (.int (μ.1 id j) :: st) μ) : V G l own cc nL dep lg ret Q pc lo (.int i :: .ref (G.2.2.1 id) :: st) μ := by
  subst hn
  intro p e R s m args below meth c H locs cells slots Qf ls hC hH hL hF
  obtain ⟨h1, h2⟩ := vn_of hi hj (sh_small hs)
  exact va_zald hC.1 hC.2.1 hC.2.2.2.2.2.1 hH.1 id 1 (ce_arr G μ hs) rfl h1 hdg (by rw [h2]; exact k p e R s m args below meth c H locs cells slots Qf ls hC hH hL hF)
theorem R_iast {id N j : Nat} {i x : Int32} (hs : sh id = .inr (.inl (0, N))) (hi : i = nI j) (hj : j < N) (hdg : decode cc pc = .ok (.iastore, 1)) (hn : pc + 1 = n) (k : V G l own cc nL dep lg ret Q n lo st (sti μ id j x)) : V G l own cc nL dep lg ret Q pc lo (.int x :: .int i :: .ref (G.2.2.1 id) :: st) μ := by
  subst hn
  intro p e R s m args below meth c H locs cells slots Qf ls hC hH hL hF
  obtain ⟨h1, h2⟩ := vn_of hi hj (sh_small hs)
  refine va_iast hC.1 hC.2.1 hC.2.2.2.2.2.1 hH.1 hH.2.1 hH.2.2 id 0 (ce_arr G μ hs) rfl h1 hdg (fun H1 locs1 hP hD hS => ?_)
  rw [h2] at hP hD
  rw [wl_seti G μ hs] at hP hD
  exact k p e R s m args below meth c H1 locs1 cells slots Qf ls hC ⟨hP, hD, hS⟩ hL hF
theorem R_zast {id N j : Nat} {i x : Int32} (hs : sh id = .inr (.inl (1, N))) (hi : i = nI j) (hj : j < N) (hdg : decode cc pc = .ok (.bastore, 1)) (hn : pc + 1 = n) (k : V G l own cc nL dep lg ret Q n lo st (sti μ id j (vp_nar .boolean x))) : V G l own cc nL dep lg ret Q pc lo (.int x :: .int i :: .ref (G.2.2.1 id) :: st) μ := by
  subst hn
  intro p e R s m args below meth c H locs cells slots Qf ls hC hH hL hF
  obtain ⟨h1, h2⟩ := vn_of hi hj (sh_small hs)
  refine va_zast hC.1 hC.2.1 hC.2.2.2.2.2.1 hH.1 hH.2.1 hH.2.2 id 1 (ce_arr G μ hs) rfl h1 hdg (fun H1 locs1 hP hD hS => ?_)
  rw [h2] at hP hD
  rw [wl_seti G μ hs] at hP hD
  exact k p e R s m args below meth c H1 locs1 cells slots Qf ls hC ⟨hP, hD, hS⟩ hL hF
theorem R_aald {id j r : Nat} {ids : List Nat} {i : Int32} (hid : id < NC) (hs : sh id = .inr (.inr ids)) (hi : i = nI j) (hr : ids[j]? = some r) (hdg : decode cc pc = .ok (.aaload, 1)) (hn : pc + 1 = n) (k : V G l own cc nL dep lg ret Q n lo (.ref (G.2.2.1 r) :: st) μ) : V G l own cc nL dep lg ret Q pc lo (.int i :: .ref (G.2.2.1 id) :: st) μ := by
  subst hn
  intro p e R s m args below meth c H locs cells slots Qf ls hC hH hL hF
  have hw : (wl G μ)[id]? = some (G.2.2.1 id, .inl (G.2.1.2.2, ids.length, .inr (.inr (.inr (.inr fun k => (ids[k]?).map G.2.2.1))))) := by rw [wl_get G μ hid, hs]; rfl
  have hlen : ids.length < 2 ^ 31 := by
    have H : ∀ k, k < NC → (match sh k with | .inr (.inr q) => decide (q.length < 1000) | _ => true) = true := by decide +kernel
    have h1 := H id hid
    rw [hs] at h1
    have h2 : ids.length < 1000 := of_decide_eq_true h1
    exact Nat.lt_trans h2 (by decide)
  obtain ⟨h1, h2⟩ := vn_of hi (List.getElem?_eq_some_iff.mp hr).1 hlen
  refine va_aldq hC.1 hC.2.1 hC.2.2.2.2.2.1 hH.1 id 2 hw rfl h1 hdg ?_
  rw [h2]
  show W p l e R s m args below meth c H locs cells slots Qf (F0 m (pc + 1) ls (va_rf ((ids[j]?).map G.2.2.1) :: st))
  rw [hr]
  exact k p e R s m args below meth c H locs cells slots Qf ls hC hH hL hF
theorem R_alen {id N : Nat} (hs : sh id = .inr (.inl (0, N))) (hdg : decode cc pc = .ok (.arraylength, 1)) (hn : pc + 1 = n) (k : V G l own cc nL dep lg ret Q n lo (.int (nI N) :: st) μ) : V G l own cc nL dep lg ret Q pc lo (.ref (G.2.2.1 id) :: st) μ := by
  subst hn
  intro p e R s m args below meth c H locs cells slots Qf ls hC hH hL hF
  exact va_alen hC.1 hC.2.1 hC.2.2.2.2.2.1 hH.1 id 0 (ce_arr G μ hs) rfl rfl hdg (k p e R s m args below meth c H locs cells slots Qf ls hC hH hL hF)
/-! arrays that are only read -/
theorem R_rld {b L j : Nat} {xs : Nat → Int32} {i : Int32} (hq : (b, L, xs) ∈ G.2.2.2) (hL31 : L < 2 ^ 31) (hi : i = nI j) (hj : j < L) (hdg : decode cc pc = .ok (.iaload, 1)) (hn : pc + 1 = n) (k : V G l own cc nL dep lg ret Q n lo (.int (xs j) :: st) μ) : V G l own cc nL dep lg ret Q pc lo (.int i :: .ref b :: st) μ := by
  subst hn
  intro p e R s m args below meth c H locs cells slots Qf ls hC hH hL hF
  obtain ⟨h1, h2⟩ := vn_of hi hj hL31
  obtain ⟨hX, hbl, hbA⟩ := hC.2.2.2.2.2.2.1.1 _ hq
  exact va_sld hC.1 hC.2.1 hX hbl hbA hH.2.2 h1 hdg (by rw [h2]; exact k p e R s m args below meth c H locs cells slots Qf ls hC hH hL hF)
theorem R_rlen {b L : Nat} {xs : Nat → Int32} (hq : (b, L, xs) ∈ G.2.2.2) (hdg : decode cc pc = .ok (.arraylength, 1)) (hn : pc + 1 = n) (k : V G l own cc nL dep lg ret Q n lo (.int (nI L) :: st) μ) : V G l own cc nL dep lg ret Q pc lo (.ref b :: st) μ := by
  subst hn
  intro p e R s m args below meth c H locs cells slots Qf ls hC hH hL hF
  obtain ⟨hX, hbl, hbA⟩ := hC.2.2.2.2.2.2.1.1 _ hq
  exact va_slen hC.1 hC.2.1 hX hbl hbA hH.2.2 hdg (k p e R s m args below meth c H locs cells slots Qf ls hC hH hL hF)
theorem R_gets {ix : Nat} (hlink : Cond.fieldLink own ix "EelLocks" "FACTORIALS" "[I" ∈ lw_tbl) (hdg : decode cc pc = .ok (.getstatic ix, 3)) (hn : pc + 3 = n) (k : ∀ fa : Nat, (fa, 7, fac) ∈ G.2.2.2 → V G l own cc nL dep lg ret Q n lo (.ref fa :: st) μ) : V G l own cc nL dep lg ret Q pc lo st μ := by
  subst hn
  intro p e R s m args below meth c H locs cells slots Qf ls hC hH hL hF
  obtain ⟨fa, hfa, hZ⟩ := hC.2.2.2.2.2.2.1.2.1
  exact va_gets hC.1 hC.2.1 hZ hH.2.2 hC.2.2.2.1 (hC.2.2.2.2.1 _ (mTT hlink rfl)) (fun x h => h) hdg (k fa hfa p e R s m args below meth c H locs cells slots Qf ls hC hH hL hF)
theorem R_getsN (hown : own = RX3) (hdg : decode cc pc = .ok (.getstatic 48, 3)) (hn : pc + 3 = n) (k : ∀ fa : Nat, (fa, 7, fac) ∈ G.2.2.2 → V G l own cc nL dep lg ret Q n lo (.ref fa :: st) μ) : V G l own cc nL dep lg ret Q pc lo st μ := by
  subst hn
  intro p e R s m args below meth c H locs cells slots Qf ls hC hH hL hF
  subst hown
  obtain ⟨fa, hfa, hZ⟩ := hC.2.2.2.2.2.2.1.2.1
  exact va_getsN hC.1 hC.2.1 hZ hH.2.2 hC.2.2.2.1 (va_Nw.use rfl hC.2.2.2.2.2.2.1.2.2.2) (fun x h => h) hdg (k fa hfa p e R s m args below meth c H locs cells slots Qf ls hC hH hL hF)
/-! Math and arraycopy -/
theorem R_max {ix : Nat} {x y : Int32} (hlink : Cond.methodLink own ix Lib.Math.max.name ∈ lw_tbl) (hstat : Cond.static Lib.Math.max.name ∈ lw_tbl) (hini : Cond.initialized "java/lang/Math" ∈ lw_tbl) (hcode : Cond.code Lib.Math.max.name Lib.Math.max.code 2 (some .int) ∈ lw_tbl) (hd : 1 ≤ dep) (hst : (st.map fun v => v.category).sum ≤ 8) (hdg : decode cc pc = .ok (.invokestatic ix, 3)) (hn : pc + 3 = n) (k : V G l own cc nL dep lg ret Q n lo (.int (if x < y then y else x) :: st) μ) : V G l own cc nL dep lg ret Q pc lo (.int y :: .int x :: st) μ := by
  subst hn
  intro p e R s m args below meth c H locs cells slots Qf ls hC hH hL hF
  have hfr := hC.2.2.2.2.2.2.2.1
  have hlo := hC.2.2.2.2.2.2.2.2.1
  exact va_mmax hC.1 hC.2.1 (hC.2.2.1.trans hL.1.symm) hC.2.2.2.1 (hC.2.2.2.2.1 _ (mTT hlink rfl)) (hC.2.2.2.2.1 _ (mTT hstat rfl)) (hC.2.2.2.2.1 _ (mTT hini rfl)) (hC.2.2.2.2.1 _ (mTT hcode rfl)) (Nat.le_trans hd hfr) (by omega) hC.2.2.2.2.2.2.2.2.2.1 hC.2.2.2.2.2.2.2.2.2.2 hdg (k p e R s m args below meth c H locs cells slots Qf ls hC hH hL hF)
theorem R_abs {ix : Nat} {x : Int32} (hlink : Cond.methodLink own ix Lib.Math.abs.name ∈ lw_tbl) (hstat : Cond.static Lib.Math.abs.name ∈ lw_tbl) (hini : Cond.initialized "java/lang/Math" ∈ lw_tbl) (hcode : Cond.code Lib.Math.abs.name Lib.Math.abs.code 1 (some .int) ∈ lw_tbl) (hd : 1 ≤ dep) (hst : (st.map fun v => v.category).sum ≤ 8) (hdg : decode cc pc = .ok (.invokestatic ix, 3)) (hn : pc + 3 = n) (k : V G l own cc nL dep lg ret Q n lo (.int (if 0 ≤ x then x else 0 - x) :: st) μ) : V G l own cc nL dep lg ret Q pc lo (.int x :: st) μ := by
  subst hn
  intro p e R s m args below meth c H locs cells slots Qf ls hC hH hL hF
  have hfr := hC.2.2.2.2.2.2.2.1
  have hlo := hC.2.2.2.2.2.2.2.2.1
  exact va_mabs hC.1 hC.2.1 (hC.2.2.1.trans hL.1.symm) hC.2.2.2.1 (hC.2.2.2.2.1 _ (mTT hlink rfl)) (hC.2.2.2.2.1 _ (mTT hstat rfl)) (hC.2.2.2.2.1 _ (mTT hini rfl)) (hC.2.2.2.2.1 _ (mTT hcode rfl)) (Nat.le_trans hd hfr) (by omega) hC.2.2.2.2.2.2.2.2.2.1 hC.2.2.2.2.2.2.2.2.2.2 hdg (k p e R s m args below meth c H locs cells slots Qf ls hC hH hL hF)
theorem R_copy {ix id0 id1 N j : Nat} (hlink : Cond.methodLink own ix arraycopyName ∈ lw_tbl) (hnat : Cond.native arraycopyName ∈ lw_tbl) (hstat : Cond.static arraycopyName ∈ lw_tbl) (hini : Cond.initialized "java/lang/System" ∈ lw_tbl) (hs0 : sh id0 = .inr (.inl (0, N))) (hs1 : sh id1 = .inr (.inl (0, N))) {x : Int32} (hx : x = nI j) (hj : j ≤ N) (hd : 1 ≤ dep) (hst : (st.map fun v => v.category).sum ≤ 8) (hdg : decode cc pc = .ok (.invokestatic ix, 3)) (hn : pc + 3 = n) (k : V G l own cc nL dep lg ret Q n lo st (sta μ id1 (va_cpy (μ.1 id0) (μ.1 id1) 0 0 j))) : V G l own cc nL dep lg ret Q pc lo (.int x :: .int 0 :: .ref (G.2.2.1 id1) :: .int 0 :: .ref (G.2.2.1 id0) :: st) μ := by
  subst hn
  intro p e R s m args below meth c H locs cells slots Qf ls hC hH hL hF
  have hfr := hC.2.2.2.2.2.2.2.1
  have hlo := hC.2.2.2.2.2.2.2.2.1
  have hNN := sh_small hs0
  subst hx
  have hcl : (nI j).toNatClampNeg = j := nI_clamp (by omega)
  have hnat2 : nativeFrameWords "java/lang/System" "arraycopy" 5 + 11 ≤ 26 := by decide
  refine va_copyi hC.1 hC.2.1 (hC.2.2.1.trans hL.1.symm) hC.2.2.2.1 (hC.2.2.2.2.1 _ (mTT hlink rfl)) (hC.2.2.2.2.1 _ (mTT hnat rfl)) (hC.2.2.2.2.1 _ (mTT hstat rfl)) (hC.2.2.2.2.1 _ (mTT hini rfl)) hC.2.2.2.2.2.1 hH.1 hH.2.1 hH.2.2 id0 id1 0 0 (ty := .int) (ce_arr G μ hs0) (ce_arr G μ hs1) rfl rfl rfl (by decide) (by decide) (nI_pos (by omega)) (by rw [hcl]; show 0 + j ≤ N; omega) (by rw [hcl]; show 0 + j ≤ N; omega) (fun _ _ => rfl) (Nat.le_trans hd hfr) (by omega) hdg (fun H1 locs1 hP hD hS => ?_)
  rw [hcl] at hP hD
  rw [wl_seta G μ hs1] at hP hD
  exact k p e R s m args below meth c H1 locs1 cells slots Qf ls hC ⟨hP, hD, hS⟩ hL hF
end VR
