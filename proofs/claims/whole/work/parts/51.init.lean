/-! THE CONSTRUCTORS -/
theorem lay_St {G : Gm} {b : Nat} (hs : StB b) (a q1 q2 q3 q4 q5 : Nat) : lay G b 6 [a, q1, q2, q3, q4, q5] = [(a, .inr (5, [.ref q1, .ref q2, .ref q3, .ref q4, .ref q5, .int 0, .int 0])), (q1, .inl (G.2.1.1, 6, .inl (fun _ => 0))), (q2, .inl (G.2.1.1, 6, .inl (fun _ => 0))), (q3, .inl (G.2.1.1, 6, .inl (fun _ => 0))), (q4, .inl (G.2.1.1, 5, .inl (fun _ => 0))), (q5, .inl (G.2.1.1, 30, .inl (fun _ => 0)))] := by
  obtain ⟨h0, h1, h2, h3, h4, h5⟩ := hs
  show [(a, ce (Gd G (adL b [a, q1, q2, q3, q4, q5])) m00 b (sh b)), (q1, ce (Gd G (adL b [a, q1, q2, q3, q4, q5])) m00 (b + 1) (sh (b + 1))), (q2, ce (Gd G (adL b [a, q1, q2, q3, q4, q5])) m00 (b + 2) (sh (b + 2))), (q3, ce (Gd G (adL b [a, q1, q2, q3, q4, q5])) m00 (b + 3) (sh (b + 3))), (q4, ce (Gd G (adL b [a, q1, q2, q3, q4, q5])) m00 (b + 4) (sh (b + 4))), (q5, ce (Gd G (adL b [a, q1, q2, q3, q4, q5])) m00 (b + 5) (sh (b + 5)))] = _
  rw [h0, h1, h2, h3, h4, h5]
  have e : ∀ k, adL b [a, q1, q2, q3, q4, q5] (b + k) = [a, q1, q2, q3, q4, q5].getD k 0 := fun k => by unfold adL; rw [Nat.add_sub_cancel_left]
  have e1 : adL b [a, q1, q2, q3, q4, q5] (b + 1) = q1 := e 1
  have e2 : adL b [a, q1, q2, q3, q4, q5] (b + 2) = q2 := e 2
  have e3 : adL b [a, q1, q2, q3, q4, q5] (b + 3) = q3 := e 3
  have e4 : adL b [a, q1, q2, q3, q4, q5] (b + 4) = q4 := e 4
  have e5 : adL b [a, q1, q2, q3, q4, q5] (b + 5) = q5 := e 5
  show [(a, (.inr (5, [.ref (adL b [a, q1, q2, q3, q4, q5] (b + 1)), .ref (adL b [a, q1, q2, q3, q4, q5] (b + 2)), .ref (adL b [a, q1, q2, q3, q4, q5] (b + 3)), .ref (adL b [a, q1, q2, q3, q4, q5] (b + 4)), .ref (adL b [a, q1, q2, q3, q4, q5] (b + 5)), .int 0, .int 0]) : va_E)), _, _, _, _, _] = _
  rw [e1, e2, e3, e4, e5]
  rfl
theorem gtA {xs ys : List Nat} {n k : Nat} (h : xs.length = n) (hk : n ≤ k) : (xs ++ ys).getD k 0 = ys.getD (k - n) 0 := by
  rw [List.getD_eq_getElem?_getD, List.getD_eq_getElem?_getD, List.getElem?_append_right (by omega), h]
theorem gtB {xs ys : List Nat} {n k : Nat} (h : xs.length = n) (hk : k < n) : (xs ++ ys).getD k 0 = xs.getD k 0 := by
  rw [List.getD_eq_getElem?_getD, List.getD_eq_getElem?_getD, List.getElem?_append_left (by omega)]
theorem clo_acts : ∀ i, i < 15 → clo 20 (6 * i) = true := by decide +kernel
theorem clo_slots : ∀ i, i < 3 → clo 106 (6 * i) = true := by decide +kernel
theorem clo_st {b : Nat} (h : StB b) : clo b 6 = true := by
  obtain ⟨h0, h1, h2, h3, h4, h5⟩ := h
  unfold clo
  refine List.all_eq_true.mpr (fun k hk => ?_)
  have hk := List.mem_range.mp hk
  rcases (show k = 0 ∨ k = 1 ∨ k = 2 ∨ k = 3 ∨ k = 4 ∨ k = 5 by omega) with rfl | rfl | rfl | rfl | rfl | rfl
  · show (rfs (sh b)).all _ = true
    rw [h0]
    show (decide (b ≤ b + 1 ∧ b + 1 < b + 6) && (decide (b ≤ b + 2 ∧ b + 2 < b + 6) && (decide (b ≤ b + 3 ∧ b + 3 < b + 6) && (decide (b ≤ b + 4 ∧ b + 4 < b + 6) && (decide (b ≤ b + 5 ∧ b + 5 < b + 6) && true))))) = true
    simp
  · rw [h1]; rfl
  · rw [h2]; rfl
  · rw [h3]; rfl
  · rw [h4]; rfl
  · rw [h5]; rfl
theorem perm3 {α : Type} (x y z : α) (l : List α) : ([x, y, z] ++ l).Perm ([x, y] ++ (l ++ [z])) := ((List.perm_append_singleton z l).symm.cons y).cons x
theorem refs_up {as xs : List Nat} {v i : Nat} (has : as.length = 6 * i) (hv : xs.getD 0 0 = v) : va_up (fun k => if k < i then some (as.getD (6 * k) 0) else none) i (some v) = fun k => if k < i + 1 then some ((as ++ xs).getD (6 * k) 0) else none := by
  funext k
  unfold va_up
  by_cases e : k = i
  · subst e
    rw [if_pos rfl, if_pos (by omega), gtA has (Nat.le_refl _), Nat.sub_self, hv]
  · rw [if_neg e]
    show (if k < i then some (as.getD (6 * k) 0) else none) = _
    by_cases e2 : k < i
    · rw [if_pos e2, if_pos (by omega), gtB has (by omega)]
    · rw [if_neg e2, if_neg (by omega)]
theorem vD_iff {A : Nat → Prop} {ws : va_W} : va_D A ws ↔ ws.Pairwise (fun p q => p.1 ≠ q.1) ∧ ∀ q ∈ ws, A q.1 := by
  constructor
  · intro h
    refine ⟨List.pairwise_iff_getElem.mpr (fun i j hi hj hij e => ?_), fun q hq => ?_⟩
    · have := h.1 i j _ _ (List.getElem?_eq_getElem hi) (List.getElem?_eq_getElem hj) e
      omega
    · obtain ⟨k, hk⟩ := List.getElem?_of_mem hq
      exact h.2 k q hk
  · intro h
    refine ⟨fun i j p q hi hj e => ?_, fun k q hk => h.2 q (List.mem_of_getElem? hk)⟩
    obtain ⟨hi1, rfl⟩ := List.getElem?_eq_some_iff.mp hi
    obtain ⟨hj1, rfl⟩ := List.getElem?_eq_some_iff.mp hj
    rcases Nat.lt_trichotomy i j with z | z | z
    · exact absurd e (List.pairwise_iff_getElem.mp h.1 i j hi1 hj1 z)
    · exact z
    · exact absurd e.symm (List.pairwise_iff_getElem.mp h.1 j i hj1 hi1 z)
theorem vD_perm {A : Nat → Prop} {ws ws' : va_W} (hp : ws.Perm ws') (h : va_D A ws) : va_D A ws' := by
  have h := vD_iff.mp h
  exact vD_iff.mpr ⟨(hp.pairwise_iff (fun {a b} (e : a.1 ≠ b.1) => Ne.symm e)).mp h.1, fun q hq => h.2 q (hp.mem_iff.mpr hq)⟩
theorem vP_perm {D : va_G} {cl : List vw_C} {H : Heap} {ws ws' : va_W} (hp : ws.Perm ws') (h : va_P D cl ws H) : va_P D cl ws' H := by
  intro k q hk
  obtain ⟨j, hj⟩ := List.getElem?_of_mem (hp.mem_iff.mpr (List.mem_of_getElem? hk))
  exact h j q hj
section CT
variable {G : Gm} {l : Launch} {A : Nat → Prop}
theorem VC.perm {own : String} {cc : ByteArray} {nL dep mc ms cells slots : Nat} {Q : va_W → Prop} {pc : Nat} {lo : List (Option Value)} {st : List Value} {pre w w' : va_W} (hp : w.Perm w') (k : VC G l A own cc nL dep mc ms Q cells slots pc lo st pre w') : VC G l A own cc nL dep mc ms Q cells slots pc lo st pre w := by
  intro p e R s m args below meth c H locs Qf ls hC hH hL hF
  have hp' : (pre ++ w).Perm (pre ++ w') := List.Perm.append_left pre hp
  exact k p e R s m args below meth c H locs Qf ls hC ⟨vP_perm hp' hH.1, vD_perm hp' hH.2.1, hH.2.2⟩ hL hF
theorem act_get {i a q7 q x1 x2 x3 x4 x5 : Nat} {as : List Nat} {e0 e1 : va_E} (has : as.length = 6 * i) (hi : i < 14 := by assumption) : ([(a, e0), (q7, e1)] ++ lay G 20 (6 * i + 6) (as ++ [q, x1, x2, x3, x4, x5]))[2 + 6 * i]? = some (q, .inr (5, [.ref x1, .ref x2, .ref x3, .ref x4, .ref x5, .int 0, .int 0])) := by
  rw [← lay_app G has (clo_acts i (by omega)) (clo_st (stB_act hi)), lay_St (stB_act hi)]
  rw [List.getElem?_append_right (by show 2 ≤ _; omega), show 2 + 6 * i - ([(a, e0), (q7, e1)] : va_W).length = 6 * i from Nat.add_sub_cancel_left 2 _, List.getElem?_append_right (by rw [lay_len]; exact Nat.le_refl _), lay_len, Nat.sub_self]
  rfl
theorem slot_get {i a q7 q14 q x1 x2 x3 x4 x5 : Nat} {as : List Nat} {e0 e1 e2 : va_E} (has : as.length = 6 * i) (hi : i < 2 := by assumption) : ([(a, e0), (q7, e1), (q14, e2)] ++ lay G 106 (6 * i + 6) (as ++ [q, x1, x2, x3, x4, x5]))[3 + 6 * i]? = some (q, .inr (5, [.ref x1, .ref x2, .ref x3, .ref x4, .ref x5, .int 0, .int 0])) := by
  rw [← lay_app G has (clo_slots i (by omega)) (clo_st (stB_slot hi)), lay_St (stB_slot hi)]
  rw [List.getElem?_append_right (by show 3 ≤ _; omega), show 3 + 6 * i - ([(a, e0), (q7, e1), (q14, e2)] : va_W).length = 6 * i from Nat.add_sub_cancel_left 3 _, List.getElem?_append_right (by rw [lay_len]; exact Nat.le_refl _), lay_len, Nat.sub_self]
  rfl
theorem act_set {i a q7 q x1 x2 x3 x4 x5 : Nat} {as : List Nat} {e0 : va_E} (has : as.length = 6 * i) : ([(a, e0), (q7, .inl (G.2.1.2.2, 14, .inr (.inr (.inr (.inr (fun k => if k < i then some (as.getD (6 * k) 0) else none))))))] ++ lay G 20 (6 * i + 6) (as ++ [q, x1, x2, x3, x4, x5])).set 1 (q7, .inl (G.2.1.2.2, 14, .inr (.inr (.inr (.inr (va_up (fun k => if k < i then some (as.getD (6 * k) 0) else none) i (some q))))))) = [(a, e0), (q7, .inl (G.2.1.2.2, 14, .inr (.inr (.inr (.inr (fun k => if k < i + 1 then some ((as ++ [q, x1, x2, x3, x4, x5]).getD (6 * k) 0) else none))))))] ++ lay G 20 (6 * (i + 1)) (as ++ [q, x1, x2, x3, x4, x5]) := by
  rw [refs_up (v := q) (xs := [q, x1, x2, x3, x4, x5]) has rfl]
  rfl
theorem slot_set {i a q7 q14 q x1 x2 x3 x4 x5 : Nat} {as : List Nat} {e0 e2 : va_E} (has : as.length = 6 * i) : ([(a, e0), (q7, .inl (G.2.1.2.2, 2, .inr (.inr (.inr (.inr (fun k => if k < i then some (as.getD (6 * k) 0) else none)))))), (q14, e2)] ++ lay G 106 (6 * i + 6) (as ++ [q, x1, x2, x3, x4, x5])).set 1 (q7, .inl (G.2.1.2.2, 2, .inr (.inr (.inr (.inr (va_up (fun k => if k < i then some (as.getD (6 * k) 0) else none) i (some q))))))) = [(a, e0), (q7, .inl (G.2.1.2.2, 2, .inr (.inr (.inr (.inr (fun k => if k < i + 1 then some ((as ++ [q, x1, x2, x3, x4, x5]).getD (6 * k) 0) else none)))))), (q14, e2)] ++ lay G 106 (6 * (i + 1)) (as ++ [q, x1, x2, x3, x4, x5]) := by
  rw [refs_up (v := q) (xs := [q, x1, x2, x3, x4, x5]) has rfl]
  rfl
theorem ids_at {b n : Nat} (ids : List Nat) (hl : ids.length = n) (h : ∀ k, k < n → ids.getD k 0 = b + 6 * k) (k : Nat) : ids[k]? = if k < n then some (b + 6 * k) else none := by
  by_cases e : k < n
  · rw [if_pos e, ← h k e, List.getD_eq_getElem?_getD, List.getElem?_eq_getElem (by omega)]
    rfl
  · rw [if_neg e, List.getElem?_eq_none (by omega)]
theorem acts_lay {a q7 : Nat} {as : List Nat} (has : as.length = 6 * 14) : [(a, (.inr (0, [.ref q7, .int 0, .int 0]) : va_E)), (q7, .inl (G.2.1.2.2, 14, .inr (.inr (.inr (.inr (fun k => if k < 14 then some (as.getD (6 * k) 0) else none))))))] ++ lay G 20 (6 * 14) as = lay G 18 86 (a :: q7 :: as) := by
  refine (congrArg (fun z => (a, (.inr (0, [.ref q7, .int 0, .int 0]) : va_E)) :: z) (lay_cons G (b := 19) (a := q7) (n := 84) (by decide +kernel) ?_)).trans (lay_cons G (b := 18) (by decide +kernel) rfl)
  refine congrArg (fun g => (.inl (G.2.1.2.2, 14, .inr (.inr (.inr (.inr g)))) : va_E)) (funext fun k => ?_)
  show (if k < 14 then some (as.getD (6 * k) 0) else none) = (([20, 26, 32, 38, 44, 50, 56, 62, 68, 74, 80, 86, 92, 98] : List Nat)[k]?).map (adL 19 (q7 :: as))
  rw [ids_at (b := 20) (n := 14) _ rfl (by decide +kernel) k]
  by_cases e : k < 14
  · rw [if_pos e, if_pos e]
    show some (as.getD (6 * k) 0) = some ((q7 :: as).getD (20 + 6 * k - 19) 0)
    rw [show 20 + 6 * k - 19 = 6 * k + 1 by omega]
    rfl
  · rw [if_neg e, if_neg e]
    rfl
theorem slots_lay {a q6 q14 : Nat} {as : List Nat} (has : as.length = 6 * 2) : [(a, (.inr (4, [.ref q6, .ref q14]) : va_E)), (q6, .inl (G.2.1.2.2, 2, .inr (.inr (.inr (.inr (fun k => if k < 2 then some (as.getD (6 * k) 0) else none))))))] ++ (lay G 106 (6 * 2) as ++ [(q14, .inl (G.2.1.2.1, 2, .inl (fun _ => 0)))]) = lay G 104 15 (a :: q6 :: (as ++ [q14])) := by
  have h1 : lay G 106 (6 * 2) as ++ [(q14, (.inl (G.2.1.2.1, 2, .inl (fun _ => 0)) : va_E))] = lay G 106 13 (as ++ [q14]) := lay_app G (b := 106) (n1 := 6 * 2) (n2 := 1) (as' := [q14]) has (by decide +kernel) (by decide +kernel)
  rw [h1]
  refine (congrArg (fun z => (a, (.inr (4, [.ref q6, .ref q14]) : va_E)) :: z) (lay_cons G (b := 105) (a := q6) (n := 13) (by decide +kernel) ?_)).trans (lay_cons G (b := 104) (by decide +kernel) ?_)
  · refine congrArg (fun g => (.inl (G.2.1.2.2, 2, .inr (.inr (.inr (.inr g)))) : va_E)) (funext fun k => ?_)
    show (if k < 2 then some (as.getD (6 * k) 0) else none) = (([106, 112] : List Nat)[k]?).map (adL 105 (q6 :: (as ++ [q14])))
    rw [ids_at (b := 106) (n := 2) _ rfl (by decide +kernel) k]
    by_cases e : k < 2
    · rw [if_pos e, if_pos e]
      show some (as.getD (6 * k) 0) = some ((q6 :: (as ++ [q14])).getD (106 + 6 * k - 105) 0)
      rw [show 106 + 6 * k - 105 = 6 * k + 1 by omega]
      show some (as.getD (6 * k) 0) = some ((as ++ [q14]).getD (6 * k) 0)
      rw [gtB has (by omega)]
    · rw [if_neg e, if_neg e]
      rfl
  · show (.inr (4, [.ref q6, .ref q14]) : va_E) = .inr (4, [.ref q6, .ref ((as ++ [q14]).getD 12 0)])
    rw [gtA has (Nat.le_refl _)]
    rfl
theorem cl0_arr {id t n : Nat} (hs : sh id = .inr (.inl (t, n))) (ad : Nat → Nat) : cl0 G ad id = .inl (tyc G t, n, .inl (fun _ => 0)) := by
  unfold cl0
  rw [hs]
  rfl
theorem model_obj (a q7 q15 q23 q30 q38 q46 q54 q63 q71 q79 q87 q94 q102 : Nat) : (.inr (8, [.int (nI 0), .int 0, .ref q7, .ref q15, .ref q23, .ref q30, .ref q38, .int 0, .int 0, .ref q46, .int 0, .int 0, .int 0, .ref q54, .int 0, .int 0, .ref q63, .ref q71, .ref q79, .ref q87, .long 0, .ref q94, .ref q102]) : va_E) = cl0 G (adL 125 [a, q7, q15, q23, q30, q38, q46, q54, q63, q71, q79, q87, q94, q102]) 125 := by
  unfold cl0
  rw [sh_125]
  refine congrArg (fun g => (Sum.inr (8, g) : va_E)) (List.ext_getElem? fun j => ?_)
  rw [List.getElem?_mapIdx]
  match j with
  | 0 => rfl
  | 1 => rfl
  | 2 => rfl
  | 3 => rfl
  | 4 => rfl
  | 5 => rfl
  | 6 => rfl
  | 7 => rfl
  | 8 => rfl
  | 9 => rfl
  | 10 => rfl
  | 11 => rfl
  | 12 => rfl
  | 13 => rfl
  | 14 => rfl
  | 15 => rfl
  | 16 => rfl
  | 17 => rfl
  | 18 => rfl
  | 19 => rfl
  | 20 => rfl
  | 21 => rfl
  | 22 => rfl
  | k + 23 => rfl
theorem model_lay (a q7 q15 q23 q30 q38 q46 q54 q63 q71 q79 q87 q94 q102 : Nat) : [(a, (.inr (8, [.int (nI 0), .int 0, .ref q7, .ref q15, .ref q23, .ref q30, .ref q38, .int 0, .int 0, .ref q46, .int 0, .int 0, .int 0, .ref q54, .int 0, .int 0, .ref q63, .ref q71, .ref q79, .ref q87, .long 0, .ref q94, .ref q102]) : va_E)), (q7, .inl (G.2.1.1, 6, .inl (fun _ => 0))), (q15, .inl (G.2.1.1, 6, .inl (fun _ => 0))), (q23, .inl (G.2.1.1, 108, .inl (fun _ => 0))), (q30, .inl (G.2.1.1, 5, .inl (fun _ => 0))), (q38, .inl (G.2.1.1, 18, .inl (fun _ => 0))), (q46, .inl (G.2.1.1, 40, .inl (fun _ => 0))), (q54, .inl (G.2.1.1, 6, .inl (fun _ => 0))), (q63, .inl (G.2.1.1, 756, .inl (fun _ => 0))), (q71, .inl (G.2.1.1, 64, .inl (fun _ => 0))), (q79, .inl (G.2.1.1, 16, .inl (fun _ => 0))), (q87, .inl (G.2.1.1, 16, .inl (fun _ => 0))), (q94, .inl (G.2.1.2.1, 2, .inl (fun _ => 0))), (q102, .inl (G.2.1.1, 108, .inl (fun _ => 0)))] = lay G 125 14 [a, q7, q15, q23, q30, q38, q46, q54, q63, q71, q79, q87, q94, q102] := by
  have h : ([(q102, .inl (G.2.1.1, 108, .inl (fun _ => 0)))] : va_W) = lay G 138 1 [q102] := (congrArg (fun z => (q102, (.inl (G.2.1.1, 108, .inl (fun _ => 0)) : va_E)) :: z) (rfl : ([] : va_W) = lay G 139 0 [])).trans (lay_cons G (b := 138) (n := 0) (by decide +kernel) (cl0_arr sh_138 _).symm)
  have h : ([(q94, .inl (G.2.1.2.1, 2, .inl (fun _ => 0))), (q102, .inl (G.2.1.1, 108, .inl (fun _ => 0)))] : va_W) = lay G 137 2 [q94, q102] := (congrArg (fun z => (q94, (.inl (G.2.1.2.1, 2, .inl (fun _ => 0)) : va_E)) :: z) h).trans (lay_cons G (b := 137) (n := 1) (by decide +kernel) (cl0_arr sh_137 _).symm)
  have h : ([(q87, .inl (G.2.1.1, 16, .inl (fun _ => 0))), (q94, .inl (G.2.1.2.1, 2, .inl (fun _ => 0))), (q102, .inl (G.2.1.1, 108, .inl (fun _ => 0)))] : va_W) = lay G 136 3 [q87, q94, q102] := (congrArg (fun z => (q87, (.inl (G.2.1.1, 16, .inl (fun _ => 0)) : va_E)) :: z) h).trans (lay_cons G (b := 136) (n := 2) (by decide +kernel) (cl0_arr sh_136 _).symm)
  have h : ([(q79, .inl (G.2.1.1, 16, .inl (fun _ => 0))), (q87, .inl (G.2.1.1, 16, .inl (fun _ => 0))), (q94, .inl (G.2.1.2.1, 2, .inl (fun _ => 0))), (q102, .inl (G.2.1.1, 108, .inl (fun _ => 0)))] : va_W) = lay G 135 4 [q79, q87, q94, q102] := (congrArg (fun z => (q79, (.inl (G.2.1.1, 16, .inl (fun _ => 0)) : va_E)) :: z) h).trans (lay_cons G (b := 135) (n := 3) (by decide +kernel) (cl0_arr sh_135 _).symm)
  have h : ([(q71, .inl (G.2.1.1, 64, .inl (fun _ => 0))), (q79, .inl (G.2.1.1, 16, .inl (fun _ => 0))), (q87, .inl (G.2.1.1, 16, .inl (fun _ => 0))), (q94, .inl (G.2.1.2.1, 2, .inl (fun _ => 0))), (q102, .inl (G.2.1.1, 108, .inl (fun _ => 0)))] : va_W) = lay G 134 5 [q71, q79, q87, q94, q102] := (congrArg (fun z => (q71, (.inl (G.2.1.1, 64, .inl (fun _ => 0)) : va_E)) :: z) h).trans (lay_cons G (b := 134) (n := 4) (by decide +kernel) (cl0_arr sh_134 _).symm)
  have h : ([(q63, .inl (G.2.1.1, 756, .inl (fun _ => 0))), (q71, .inl (G.2.1.1, 64, .inl (fun _ => 0))), (q79, .inl (G.2.1.1, 16, .inl (fun _ => 0))), (q87, .inl (G.2.1.1, 16, .inl (fun _ => 0))), (q94, .inl (G.2.1.2.1, 2, .inl (fun _ => 0))), (q102, .inl (G.2.1.1, 108, .inl (fun _ => 0)))] : va_W) = lay G 133 6 [q63, q71, q79, q87, q94, q102] := (congrArg (fun z => (q63, (.inl (G.2.1.1, 756, .inl (fun _ => 0)) : va_E)) :: z) h).trans (lay_cons G (b := 133) (n := 5) (by decide +kernel) (cl0_arr sh_133 _).symm)
  have h : ([(q54, .inl (G.2.1.1, 6, .inl (fun _ => 0))), (q63, .inl (G.2.1.1, 756, .inl (fun _ => 0))), (q71, .inl (G.2.1.1, 64, .inl (fun _ => 0))), (q79, .inl (G.2.1.1, 16, .inl (fun _ => 0))), (q87, .inl (G.2.1.1, 16, .inl (fun _ => 0))), (q94, .inl (G.2.1.2.1, 2, .inl (fun _ => 0))), (q102, .inl (G.2.1.1, 108, .inl (fun _ => 0)))] : va_W) = lay G 132 7 [q54, q63, q71, q79, q87, q94, q102] := (congrArg (fun z => (q54, (.inl (G.2.1.1, 6, .inl (fun _ => 0)) : va_E)) :: z) h).trans (lay_cons G (b := 132) (n := 6) (by decide +kernel) (cl0_arr sh_132 _).symm)
  have h : ([(q46, .inl (G.2.1.1, 40, .inl (fun _ => 0))), (q54, .inl (G.2.1.1, 6, .inl (fun _ => 0))), (q63, .inl (G.2.1.1, 756, .inl (fun _ => 0))), (q71, .inl (G.2.1.1, 64, .inl (fun _ => 0))), (q79, .inl (G.2.1.1, 16, .inl (fun _ => 0))), (q87, .inl (G.2.1.1, 16, .inl (fun _ => 0))), (q94, .inl (G.2.1.2.1, 2, .inl (fun _ => 0))), (q102, .inl (G.2.1.1, 108, .inl (fun _ => 0)))] : va_W) = lay G 131 8 [q46, q54, q63, q71, q79, q87, q94, q102] := (congrArg (fun z => (q46, (.inl (G.2.1.1, 40, .inl (fun _ => 0)) : va_E)) :: z) h).trans (lay_cons G (b := 131) (n := 7) (by decide +kernel) (cl0_arr sh_131 _).symm)
  have h : ([(q38, .inl (G.2.1.1, 18, .inl (fun _ => 0))), (q46, .inl (G.2.1.1, 40, .inl (fun _ => 0))), (q54, .inl (G.2.1.1, 6, .inl (fun _ => 0))), (q63, .inl (G.2.1.1, 756, .inl (fun _ => 0))), (q71, .inl (G.2.1.1, 64, .inl (fun _ => 0))), (q79, .inl (G.2.1.1, 16, .inl (fun _ => 0))), (q87, .inl (G.2.1.1, 16, .inl (fun _ => 0))), (q94, .inl (G.2.1.2.1, 2, .inl (fun _ => 0))), (q102, .inl (G.2.1.1, 108, .inl (fun _ => 0)))] : va_W) = lay G 130 9 [q38, q46, q54, q63, q71, q79, q87, q94, q102] := (congrArg (fun z => (q38, (.inl (G.2.1.1, 18, .inl (fun _ => 0)) : va_E)) :: z) h).trans (lay_cons G (b := 130) (n := 8) (by decide +kernel) (cl0_arr sh_130 _).symm)
  have h : ([(q30, .inl (G.2.1.1, 5, .inl (fun _ => 0))), (q38, .inl (G.2.1.1, 18, .inl (fun _ => 0))), (q46, .inl (G.2.1.1, 40, .inl (fun _ => 0))), (q54, .inl (G.2.1.1, 6, .inl (fun _ => 0))), (q63, .inl (G.2.1.1, 756, .inl (fun _ => 0))), (q71, .inl (G.2.1.1, 64, .inl (fun _ => 0))), (q79, .inl (G.2.1.1, 16, .inl (fun _ => 0))), (q87, .inl (G.2.1.1, 16, .inl (fun _ => 0))), (q94, .inl (G.2.1.2.1, 2, .inl (fun _ => 0))), (q102, .inl (G.2.1.1, 108, .inl (fun _ => 0)))] : va_W) = lay G 129 10 [q30, q38, q46, q54, q63, q71, q79, q87, q94, q102] := (congrArg (fun z => (q30, (.inl (G.2.1.1, 5, .inl (fun _ => 0)) : va_E)) :: z) h).trans (lay_cons G (b := 129) (n := 9) (by decide +kernel) (cl0_arr sh_129 _).symm)
  have h : ([(q23, .inl (G.2.1.1, 108, .inl (fun _ => 0))), (q30, .inl (G.2.1.1, 5, .inl (fun _ => 0))), (q38, .inl (G.2.1.1, 18, .inl (fun _ => 0))), (q46, .inl (G.2.1.1, 40, .inl (fun _ => 0))), (q54, .inl (G.2.1.1, 6, .inl (fun _ => 0))), (q63, .inl (G.2.1.1, 756, .inl (fun _ => 0))), (q71, .inl (G.2.1.1, 64, .inl (fun _ => 0))), (q79, .inl (G.2.1.1, 16, .inl (fun _ => 0))), (q87, .inl (G.2.1.1, 16, .inl (fun _ => 0))), (q94, .inl (G.2.1.2.1, 2, .inl (fun _ => 0))), (q102, .inl (G.2.1.1, 108, .inl (fun _ => 0)))] : va_W) = lay G 128 11 [q23, q30, q38, q46, q54, q63, q71, q79, q87, q94, q102] := (congrArg (fun z => (q23, (.inl (G.2.1.1, 108, .inl (fun _ => 0)) : va_E)) :: z) h).trans (lay_cons G (b := 128) (n := 10) (by decide +kernel) (cl0_arr sh_128 _).symm)
  have h : ([(q15, .inl (G.2.1.1, 6, .inl (fun _ => 0))), (q23, .inl (G.2.1.1, 108, .inl (fun _ => 0))), (q30, .inl (G.2.1.1, 5, .inl (fun _ => 0))), (q38, .inl (G.2.1.1, 18, .inl (fun _ => 0))), (q46, .inl (G.2.1.1, 40, .inl (fun _ => 0))), (q54, .inl (G.2.1.1, 6, .inl (fun _ => 0))), (q63, .inl (G.2.1.1, 756, .inl (fun _ => 0))), (q71, .inl (G.2.1.1, 64, .inl (fun _ => 0))), (q79, .inl (G.2.1.1, 16, .inl (fun _ => 0))), (q87, .inl (G.2.1.1, 16, .inl (fun _ => 0))), (q94, .inl (G.2.1.2.1, 2, .inl (fun _ => 0))), (q102, .inl (G.2.1.1, 108, .inl (fun _ => 0)))] : va_W) = lay G 127 12 [q15, q23, q30, q38, q46, q54, q63, q71, q79, q87, q94, q102] := (congrArg (fun z => (q15, (.inl (G.2.1.1, 6, .inl (fun _ => 0)) : va_E)) :: z) h).trans (lay_cons G (b := 127) (n := 11) (by decide +kernel) (cl0_arr sh_127 _).symm)
  have h : ([(q7, .inl (G.2.1.1, 6, .inl (fun _ => 0))), (q15, .inl (G.2.1.1, 6, .inl (fun _ => 0))), (q23, .inl (G.2.1.1, 108, .inl (fun _ => 0))), (q30, .inl (G.2.1.1, 5, .inl (fun _ => 0))), (q38, .inl (G.2.1.1, 18, .inl (fun _ => 0))), (q46, .inl (G.2.1.1, 40, .inl (fun _ => 0))), (q54, .inl (G.2.1.1, 6, .inl (fun _ => 0))), (q63, .inl (G.2.1.1, 756, .inl (fun _ => 0))), (q71, .inl (G.2.1.1, 64, .inl (fun _ => 0))), (q79, .inl (G.2.1.1, 16, .inl (fun _ => 0))), (q87, .inl (G.2.1.1, 16, .inl (fun _ => 0))), (q94, .inl (G.2.1.2.1, 2, .inl (fun _ => 0))), (q102, .inl (G.2.1.1, 108, .inl (fun _ => 0)))] : va_W) = lay G 126 13 [q7, q15, q23, q30, q38, q46, q54, q63, q71, q79, q87, q94, q102] := (congrArg (fun z => (q7, (.inl (G.2.1.1, 6, .inl (fun _ => 0)) : va_E)) :: z) h).trans (lay_cons G (b := 126) (n := 12) (by decide +kernel) (cl0_arr sh_126 _).symm)
  exact (congrArg (fun z => (a, (.inr (8, [.int (nI 0), .int 0, .ref q7, .ref q15, .ref q23, .ref q30, .ref q38, .int 0, .int 0, .ref q46, .int 0, .int 0, .int 0, .ref q54, .int 0, .int 0, .ref q63, .ref q71, .ref q79, .ref q87, .long 0, .ref q94, .ref q102]) : va_E)) :: z) h).trans (lay_cons G (b := 125) (by decide +kernel) (model_obj a q7 q15 q23 q30 q38 q46 q54 q63 q71 q79 q87 q94 q102))
theorem cn_X5 {b : Nat} (hs : StB b) (pre : va_W) (a : Nat) : Cn G l A 1 5 53 yX5_init cX5_init 1 a (.inr (5, [.null, .null, .null, .null, .null, .int 0, .int 0])) pre (fun w => ∃ q1 q2 q3 q4 q5 : Nat, w = lay G b 6 [a, q1, q2, q3, q4, q5]) := by
  refine Cn.of (by decide +kernel) rfl (Nat.le_of_ble_eq_true rfl) ?_
  show VC G l A RX5 cX5_init 1 1 5 53 _ 0 0 0 [some (.ref a)] [] pre _
  refine C_aload_n (n := 1) dX5_init_0 rfl rfl ?_
  refine C_obj (n := 4) tM_RX5_3 (by decide) (Nat.le_of_ble_eq_true rfl) dX5_init_1 rfl ?_
  refine C_aload_n (n := 5) dX5_init_4 rfl rfl ?_
  refine C_bipush (v := nI 6) (n := 7) dX5_init_5 rfl rfl ?_
  refine C_newa (n := 9) (by decide) (Nat.le_of_ble_eq_true rfl) (Nat.le_of_ble_eq_true rfl) dX5_init_7 rfl (fun q7 => ?_)
  refine C_put (k0 := 0) (ci := 5) (j := 0) (n := 12) inX5 tyX5_ok nmX5 rfl (by decide) rfl rfl tF_RX5_9 rfl rfl rfl rfl (Nat.le_of_ble_eq_true rfl) dX5_init_9 rfl ?_
  refine C_aload_n (n := 13) dX5_init_12 rfl rfl ?_
  refine C_bipush (v := nI 6) (n := 15) dX5_init_13 rfl rfl ?_
  refine C_newa (n := 17) (by decide) (Nat.le_of_ble_eq_true rfl) (Nat.le_of_ble_eq_true rfl) dX5_init_15 rfl (fun q15 => ?_)
  refine C_put (k0 := 0) (ci := 5) (j := 1) (n := 20) inX5 tyX5_ok nmX5 rfl (by decide) rfl rfl tF_RX5_15 rfl rfl rfl rfl (Nat.le_of_ble_eq_true rfl) dX5_init_17 rfl ?_
  refine C_aload_n (n := 21) dX5_init_20 rfl rfl ?_
  refine C_bipush (v := nI 6) (n := 23) dX5_init_21 rfl rfl ?_
  refine C_newa (n := 25) (by decide) (Nat.le_of_ble_eq_true rfl) (Nat.le_of_ble_eq_true rfl) dX5_init_23 rfl (fun q23 => ?_)
  refine C_put (k0 := 0) (ci := 5) (j := 2) (n := 28) inX5 tyX5_ok nmX5 rfl (by decide) rfl rfl tF_RX5_18 rfl rfl rfl rfl (Nat.le_of_ble_eq_true rfl) dX5_init_25 rfl ?_
  refine C_aload_n (n := 29) dX5_init_28 rfl rfl ?_
  refine C_iconst (v := nI 5) (n := 30) dX5_init_29 rfl rfl ?_
  refine C_newa (n := 32) (by decide) (Nat.le_of_ble_eq_true rfl) (Nat.le_of_ble_eq_true rfl) dX5_init_30 rfl (fun q30 => ?_)
  refine C_put (k0 := 0) (ci := 5) (j := 3) (n := 35) inX5 tyX5_ok nmX5 rfl (by decide) rfl rfl tF_RX5_21 rfl rfl rfl rfl (Nat.le_of_ble_eq_true rfl) dX5_init_32 rfl ?_
  refine C_aload_n (n := 36) dX5_init_35 rfl rfl ?_
  refine C_bipush (v := nI 30) (n := 38) dX5_init_36 rfl rfl ?_
  refine C_newa (n := 40) (by decide) (Nat.le_of_ble_eq_true rfl) (Nat.le_of_ble_eq_true rfl) dX5_init_38 rfl (fun q38 => ?_)
  refine C_put (k0 := 0) (ci := 5) (j := 4) (n := 43) inX5 tyX5_ok nmX5 rfl (by decide) rfl rfl tF_RX5_24 rfl rfl rfl rfl (Nat.le_of_ble_eq_true rfl) dX5_init_40 rfl ?_
  exact C_ret dX5_init_43 (Nat.le_of_ble_eq_true rfl) (Nat.le_of_ble_eq_true rfl) ⟨q7, q15, q23, q30, q38, (lay_St hs _ _ _ _ _ _).symm⟩
theorem cn_X6 (pre : va_W) (a : Nat) : Cn G l A 1 1 40 yX6_init cX6_init 1 a (.inr (6, [.null, .int 0])) pre (fun w => ∃ as : List Nat, as.length = 1 ∧ w = lay G 1 2 (a :: as)) := by
  refine Cn.of (by decide +kernel) rfl (Nat.le_of_ble_eq_true rfl) ?_
  show VC G l A RX6 cX6_init 1 1 1 40 _ 0 0 0 [some (.ref a)] [] pre _
  refine C_aload_n (n := 1) dX6_init_0 rfl rfl ?_
  refine C_obj (n := 4) tM_RX6_3 (by decide) (Nat.le_of_ble_eq_true rfl) dX6_init_1 rfl ?_
  refine C_aload_n (n := 5) dX6_init_4 rfl rfl ?_
  refine C_bipush (v := nI 40) (n := 7) dX6_init_5 rfl rfl ?_
  refine C_newa (n := 9) (by decide) (Nat.le_of_ble_eq_true rfl) (Nat.le_of_ble_eq_true rfl) dX6_init_7 rfl (fun q7 => ?_)
  refine C_put (k0 := 0) (ci := 6) (j := 0) (n := 12) inX6 tyX6_ok nmX6 rfl (by decide) rfl rfl tF_RX6_9 rfl rfl rfl rfl (Nat.le_of_ble_eq_true rfl) dX6_init_9 rfl ?_
  exact C_ret dX6_init_12 (Nat.le_of_ble_eq_true rfl) (Nat.le_of_ble_eq_true rfl) ⟨[q7], rfl, rfl⟩
theorem cn_X3 (pre : va_W) (a : Nat) : Cn G l A 1 2 12 yX3_init cX3_init 1 a (.inr (3, [.null, .null])) pre (fun w => ∃ as : List Nat, as.length = 2 ∧ w = lay G 119 3 (a :: as)) := by
  refine Cn.of (by decide +kernel) rfl (Nat.le_of_ble_eq_true rfl) ?_
  show VC G l A RX3 cX3_init 1 1 2 12 _ 0 0 0 [some (.ref a)] [] pre _
  refine C_aload_n (n := 1) dX3_init_0 rfl rfl ?_
  refine C_obj (n := 4) tM_RX3_3 (by decide) (Nat.le_of_ble_eq_true rfl) dX3_init_1 rfl ?_
  refine C_aload_n (n := 5) dX3_init_4 rfl rfl ?_
  refine C_bipush (v := nI 6) (n := 7) dX3_init_5 rfl rfl ?_
  refine C_newa (n := 9) (by decide) (Nat.le_of_ble_eq_true rfl) (Nat.le_of_ble_eq_true rfl) dX3_init_7 rfl (fun q7 => ?_)
  refine C_put (k0 := 0) (ci := 3) (j := 0) (n := 12) inX3 tyX3_ok nmX3 rfl (by decide) rfl rfl tF_RX3_9 rfl rfl rfl rfl (Nat.le_of_ble_eq_true rfl) dX3_init_9 rfl ?_
  refine C_aload_n (n := 13) dX3_init_12 rfl rfl ?_
  refine C_bipush (v := nI 6) (n := 15) dX3_init_13 rfl rfl ?_
  refine C_newa (n := 17) (by decide) (Nat.le_of_ble_eq_true rfl) (Nat.le_of_ble_eq_true rfl) dX3_init_15 rfl (fun q15 => ?_)
  refine C_put (k0 := 0) (ci := 3) (j := 1) (n := 20) inX3 tyX3_ok nmX3 rfl (by decide) rfl rfl tF_RX3_15 rfl rfl rfl rfl (Nat.le_of_ble_eq_true rfl) dX3_init_17 rfl ?_
  exact C_ret dX3_init_20 (Nat.le_of_ble_eq_true rfl) (Nat.le_of_ble_eq_true rfl) ⟨[q7, q15], rfl, rfl⟩
theorem cn_X2 (pre : va_W) (a : Nat) : Cn G l A 1 2 32 yX2_init cX2_init 1 a (.inr (2, [.null, .null, .int 0, .int 0, .int 0, .int 0])) pre (fun w => ∃ as : List Nat, as.length = 2 ∧ w = lay G 122 3 (a :: as)) := by
  refine Cn.of (by decide +kernel) rfl (Nat.le_of_ble_eq_true rfl) ?_
  show VC G l A RX2 cX2_init 1 1 2 32 _ 0 0 0 [some (.ref a)] [] pre _
  refine C_aload_n (n := 1) dX2_init_0 rfl rfl ?_
  refine C_obj (n := 4) tM_RX2_3 (by decide) (Nat.le_of_ble_eq_true rfl) dX2_init_1 rfl ?_
  refine C_aload_n (n := 5) dX2_init_4 rfl rfl ?_
  refine C_bipush (v := nI 16) (n := 7) dX2_init_5 rfl rfl ?_
  refine C_newa (n := 9) (by decide) (Nat.le_of_ble_eq_true rfl) (Nat.le_of_ble_eq_true rfl) dX2_init_7 rfl (fun q7 => ?_)
  refine C_put (k0 := 0) (ci := 2) (j := 0) (n := 12) inX2 tyX2_ok nmX2 rfl (by decide) rfl rfl tF_RX2_11 rfl rfl rfl rfl (Nat.le_of_ble_eq_true rfl) dX2_init_9 rfl ?_
  refine C_aload_n (n := 13) dX2_init_12 rfl rfl ?_
  refine C_bipush (v := nI 16) (n := 15) dX2_init_13 rfl rfl ?_
  refine C_newa (n := 17) (by decide) (Nat.le_of_ble_eq_true rfl) (Nat.le_of_ble_eq_true rfl) dX2_init_15 rfl (fun q15 => ?_)
  refine C_put (k0 := 0) (ci := 2) (j := 1) (n := 20) inX2 tyX2_ok nmX2 rfl (by decide) rfl rfl tF_RX2_15 rfl rfl rfl rfl (Nat.le_of_ble_eq_true rfl) dX2_init_17 rfl ?_
  exact C_ret dX2_init_20 (Nat.le_of_ble_eq_true rfl) (Nat.le_of_ble_eq_true rfl) ⟨[q7, q15], rfl, rfl⟩
theorem cn_X8 (pre : va_W) (a : Nat) : Cn G l A 1 13 1151 yX8_init cX8_init 1 a (.inr (8, [.int 0, .int 0, .null, .null, .null, .null, .null, .int 0, .int 0, .null, .int 0, .int 0, .int 0, .null, .int 0, .int 0, .null, .null, .null, .null, .long 0, .null, .null])) pre (fun w => ∃ as : List Nat, as.length = 13 ∧ w = lay G 125 14 (a :: as)) := by
  refine Cn.of (by decide +kernel) rfl (Nat.le_of_ble_eq_true rfl) ?_
  show VC G l A RX8 cX8_init 1 1 13 1151 _ 0 0 0 [some (.ref a)] [] pre _
  refine C_aload_n (n := 1) dX8_init_0 rfl rfl ?_
  refine C_obj (n := 4) tM_RX8_1 (by decide) (Nat.le_of_ble_eq_true rfl) dX8_init_1 rfl ?_
  refine C_aload_n (n := 5) dX8_init_4 rfl rfl ?_
  refine C_bipush (v := nI 6) (n := 7) dX8_init_5 rfl rfl ?_
  refine C_newa (n := 9) (by decide) (Nat.le_of_ble_eq_true rfl) (Nat.le_of_ble_eq_true rfl) dX8_init_7 rfl (fun q7 => ?_)
  refine C_put (k0 := 0) (ci := 8) (j := 2) (n := 12) inX8 tyX8_ok nmX8 rfl (by decide) rfl rfl tF_RX8_7 rfl rfl rfl rfl (Nat.le_of_ble_eq_true rfl) dX8_init_9 rfl ?_
  refine VC.eqw (w' := [(a, .inr (8, [.int 0, .int 0, .ref q7, .null, .null, .null, .null, .int 0, .int 0, .null, .int 0, .int 0, .int 0, .null, .int 0, .int 0, .null, .null, .null, .null, .long 0, .null, .null])), (q7, .inl (G.2.1.1, 6, .inl (fun _ => 0)))]) rfl ?_
  refine C_aload_n (n := 13) dX8_init_12 rfl rfl ?_
  refine C_bipush (v := nI 6) (n := 15) dX8_init_13 rfl rfl ?_
  refine C_newa (n := 17) (by decide) (Nat.le_of_ble_eq_true rfl) (Nat.le_of_ble_eq_true rfl) dX8_init_15 rfl (fun q15 => ?_)
  refine C_put (k0 := 0) (ci := 8) (j := 3) (n := 20) inX8 tyX8_ok nmX8 rfl (by decide) rfl rfl tF_RX8_13 rfl rfl rfl rfl (Nat.le_of_ble_eq_true rfl) dX8_init_17 rfl ?_
  refine VC.eqw (w' := [(a, .inr (8, [.int 0, .int 0, .ref q7, .ref q15, .null, .null, .null, .int 0, .int 0, .null, .int 0, .int 0, .int 0, .null, .int 0, .int 0, .null, .null, .null, .null, .long 0, .null, .null])), (q7, .inl (G.2.1.1, 6, .inl (fun _ => 0))), (q15, .inl (G.2.1.1, 6, .inl (fun _ => 0)))]) rfl ?_
  refine C_aload_n (n := 21) dX8_init_20 rfl rfl ?_
  refine C_bipush (v := nI 108) (n := 23) dX8_init_21 rfl rfl ?_
  refine C_newa (n := 25) (by decide) (Nat.le_of_ble_eq_true rfl) (Nat.le_of_ble_eq_true rfl) dX8_init_23 rfl (fun q23 => ?_)
  refine C_put (k0 := 0) (ci := 8) (j := 4) (n := 28) inX8 tyX8_ok nmX8 rfl (by decide) rfl rfl tF_RX8_16 rfl rfl rfl rfl (Nat.le_of_ble_eq_true rfl) dX8_init_25 rfl ?_
  refine VC.eqw (w' := [(a, .inr (8, [.int 0, .int 0, .ref q7, .ref q15, .ref q23, .null, .null, .int 0, .int 0, .null, .int 0, .int 0, .int 0, .null, .int 0, .int 0, .null, .null, .null, .null, .long 0, .null, .null])), (q7, .inl (G.2.1.1, 6, .inl (fun _ => 0))), (q15, .inl (G.2.1.1, 6, .inl (fun _ => 0))), (q23, .inl (G.2.1.1, 108, .inl (fun _ => 0)))]) rfl ?_
  refine C_aload_n (n := 29) dX8_init_28 rfl rfl ?_
  refine C_iconst (v := nI 5) (n := 30) dX8_init_29 rfl rfl ?_
  refine C_newa (n := 32) (by decide) (Nat.le_of_ble_eq_true rfl) (Nat.le_of_ble_eq_true rfl) dX8_init_30 rfl (fun q30 => ?_)
  refine C_put (k0 := 0) (ci := 8) (j := 5) (n := 35) inX8 tyX8_ok nmX8 rfl (by decide) rfl rfl tF_RX8_19 rfl rfl rfl rfl (Nat.le_of_ble_eq_true rfl) dX8_init_32 rfl ?_
  refine VC.eqw (w' := [(a, .inr (8, [.int 0, .int 0, .ref q7, .ref q15, .ref q23, .ref q30, .null, .int 0, .int 0, .null, .int 0, .int 0, .int 0, .null, .int 0, .int 0, .null, .null, .null, .null, .long 0, .null, .null])), (q7, .inl (G.2.1.1, 6, .inl (fun _ => 0))), (q15, .inl (G.2.1.1, 6, .inl (fun _ => 0))), (q23, .inl (G.2.1.1, 108, .inl (fun _ => 0))), (q30, .inl (G.2.1.1, 5, .inl (fun _ => 0)))]) rfl ?_
  refine C_aload_n (n := 36) dX8_init_35 rfl rfl ?_
  refine C_bipush (v := nI 18) (n := 38) dX8_init_36 rfl rfl ?_
  refine C_newa (n := 40) (by decide) (Nat.le_of_ble_eq_true rfl) (Nat.le_of_ble_eq_true rfl) dX8_init_38 rfl (fun q38 => ?_)
  refine C_put (k0 := 0) (ci := 8) (j := 6) (n := 43) inX8 tyX8_ok nmX8 rfl (by decide) rfl rfl tF_RX8_22 rfl rfl rfl rfl (Nat.le_of_ble_eq_true rfl) dX8_init_40 rfl ?_
  refine VC.eqw (w' := [(a, .inr (8, [.int 0, .int 0, .ref q7, .ref q15, .ref q23, .ref q30, .ref q38, .int 0, .int 0, .null, .int 0, .int 0, .int 0, .null, .int 0, .int 0, .null, .null, .null, .null, .long 0, .null, .null])), (q7, .inl (G.2.1.1, 6, .inl (fun _ => 0))), (q15, .inl (G.2.1.1, 6, .inl (fun _ => 0))), (q23, .inl (G.2.1.1, 108, .inl (fun _ => 0))), (q30, .inl (G.2.1.1, 5, .inl (fun _ => 0))), (q38, .inl (G.2.1.1, 18, .inl (fun _ => 0)))]) rfl ?_
  refine C_aload_n (n := 44) dX8_init_43 rfl rfl ?_
  refine C_bipush (v := nI 40) (n := 46) dX8_init_44 rfl rfl ?_
  refine C_newa (n := 48) (by decide) (Nat.le_of_ble_eq_true rfl) (Nat.le_of_ble_eq_true rfl) dX8_init_46 rfl (fun q46 => ?_)
  refine C_put (k0 := 0) (ci := 8) (j := 9) (n := 51) inX8 tyX8_ok nmX8 rfl (by decide) rfl rfl tF_RX8_25 rfl rfl rfl rfl (Nat.le_of_ble_eq_true rfl) dX8_init_48 rfl ?_
  refine VC.eqw (w' := [(a, .inr (8, [.int 0, .int 0, .ref q7, .ref q15, .ref q23, .ref q30, .ref q38, .int 0, .int 0, .ref q46, .int 0, .int 0, .int 0, .null, .int 0, .int 0, .null, .null, .null, .null, .long 0, .null, .null])), (q7, .inl (G.2.1.1, 6, .inl (fun _ => 0))), (q15, .inl (G.2.1.1, 6, .inl (fun _ => 0))), (q23, .inl (G.2.1.1, 108, .inl (fun _ => 0))), (q30, .inl (G.2.1.1, 5, .inl (fun _ => 0))), (q38, .inl (G.2.1.1, 18, .inl (fun _ => 0))), (q46, .inl (G.2.1.1, 40, .inl (fun _ => 0)))]) rfl ?_
  refine C_aload_n (n := 52) dX8_init_51 rfl rfl ?_
  refine C_bipush (v := nI 6) (n := 54) dX8_init_52 rfl rfl ?_
  refine C_newa (n := 56) (by decide) (Nat.le_of_ble_eq_true rfl) (Nat.le_of_ble_eq_true rfl) dX8_init_54 rfl (fun q54 => ?_)
  refine C_put (k0 := 0) (ci := 8) (j := 13) (n := 59) inX8 tyX8_ok nmX8 rfl (by decide) rfl rfl tF_RX8_28 rfl rfl rfl rfl (Nat.le_of_ble_eq_true rfl) dX8_init_56 rfl ?_
  refine VC.eqw (w' := [(a, .inr (8, [.int 0, .int 0, .ref q7, .ref q15, .ref q23, .ref q30, .ref q38, .int 0, .int 0, .ref q46, .int 0, .int 0, .int 0, .ref q54, .int 0, .int 0, .null, .null, .null, .null, .long 0, .null, .null])), (q7, .inl (G.2.1.1, 6, .inl (fun _ => 0))), (q15, .inl (G.2.1.1, 6, .inl (fun _ => 0))), (q23, .inl (G.2.1.1, 108, .inl (fun _ => 0))), (q30, .inl (G.2.1.1, 5, .inl (fun _ => 0))), (q38, .inl (G.2.1.1, 18, .inl (fun _ => 0))), (q46, .inl (G.2.1.1, 40, .inl (fun _ => 0))), (q54, .inl (G.2.1.1, 6, .inl (fun _ => 0)))]) rfl ?_
  refine C_aload_n (n := 60) dX8_init_59 rfl rfl ?_
  refine C_sipush (v := nI 756) (n := 63) dX8_init_60 rfl rfl ?_
  refine C_newa (n := 65) (by decide) (Nat.le_of_ble_eq_true rfl) (Nat.le_of_ble_eq_true rfl) dX8_init_63 rfl (fun q63 => ?_)
  refine C_put (k0 := 0) (ci := 8) (j := 16) (n := 68) inX8 tyX8_ok nmX8 rfl (by decide) rfl rfl tF_RX8_31 rfl rfl rfl rfl (Nat.le_of_ble_eq_true rfl) dX8_init_65 rfl ?_
  refine VC.eqw (w' := [(a, .inr (8, [.int 0, .int 0, .ref q7, .ref q15, .ref q23, .ref q30, .ref q38, .int 0, .int 0, .ref q46, .int 0, .int 0, .int 0, .ref q54, .int 0, .int 0, .ref q63, .null, .null, .null, .long 0, .null, .null])), (q7, .inl (G.2.1.1, 6, .inl (fun _ => 0))), (q15, .inl (G.2.1.1, 6, .inl (fun _ => 0))), (q23, .inl (G.2.1.1, 108, .inl (fun _ => 0))), (q30, .inl (G.2.1.1, 5, .inl (fun _ => 0))), (q38, .inl (G.2.1.1, 18, .inl (fun _ => 0))), (q46, .inl (G.2.1.1, 40, .inl (fun _ => 0))), (q54, .inl (G.2.1.1, 6, .inl (fun _ => 0))), (q63, .inl (G.2.1.1, 756, .inl (fun _ => 0)))]) rfl ?_
  refine C_aload_n (n := 69) dX8_init_68 rfl rfl ?_
  refine C_bipush (v := nI 64) (n := 71) dX8_init_69 rfl rfl ?_
  refine C_newa (n := 73) (by decide) (Nat.le_of_ble_eq_true rfl) (Nat.le_of_ble_eq_true rfl) dX8_init_71 rfl (fun q71 => ?_)
  refine C_put (k0 := 0) (ci := 8) (j := 17) (n := 76) inX8 tyX8_ok nmX8 rfl (by decide) rfl rfl tF_RX8_34 rfl rfl rfl rfl (Nat.le_of_ble_eq_true rfl) dX8_init_73 rfl ?_
  refine VC.eqw (w' := [(a, .inr (8, [.int 0, .int 0, .ref q7, .ref q15, .ref q23, .ref q30, .ref q38, .int 0, .int 0, .ref q46, .int 0, .int 0, .int 0, .ref q54, .int 0, .int 0, .ref q63, .ref q71, .null, .null, .long 0, .null, .null])), (q7, .inl (G.2.1.1, 6, .inl (fun _ => 0))), (q15, .inl (G.2.1.1, 6, .inl (fun _ => 0))), (q23, .inl (G.2.1.1, 108, .inl (fun _ => 0))), (q30, .inl (G.2.1.1, 5, .inl (fun _ => 0))), (q38, .inl (G.2.1.1, 18, .inl (fun _ => 0))), (q46, .inl (G.2.1.1, 40, .inl (fun _ => 0))), (q54, .inl (G.2.1.1, 6, .inl (fun _ => 0))), (q63, .inl (G.2.1.1, 756, .inl (fun _ => 0))), (q71, .inl (G.2.1.1, 64, .inl (fun _ => 0)))]) rfl ?_
  refine C_aload_n (n := 77) dX8_init_76 rfl rfl ?_
  refine C_bipush (v := nI 16) (n := 79) dX8_init_77 rfl rfl ?_
  refine C_newa (n := 81) (by decide) (Nat.le_of_ble_eq_true rfl) (Nat.le_of_ble_eq_true rfl) dX8_init_79 rfl (fun q79 => ?_)
  refine C_put (k0 := 0) (ci := 8) (j := 18) (n := 84) inX8 tyX8_ok nmX8 rfl (by decide) rfl rfl tF_RX8_37 rfl rfl rfl rfl (Nat.le_of_ble_eq_true rfl) dX8_init_81 rfl ?_
  refine VC.eqw (w' := [(a, .inr (8, [.int 0, .int 0, .ref q7, .ref q15, .ref q23, .ref q30, .ref q38, .int 0, .int 0, .ref q46, .int 0, .int 0, .int 0, .ref q54, .int 0, .int 0, .ref q63, .ref q71, .ref q79, .null, .long 0, .null, .null])), (q7, .inl (G.2.1.1, 6, .inl (fun _ => 0))), (q15, .inl (G.2.1.1, 6, .inl (fun _ => 0))), (q23, .inl (G.2.1.1, 108, .inl (fun _ => 0))), (q30, .inl (G.2.1.1, 5, .inl (fun _ => 0))), (q38, .inl (G.2.1.1, 18, .inl (fun _ => 0))), (q46, .inl (G.2.1.1, 40, .inl (fun _ => 0))), (q54, .inl (G.2.1.1, 6, .inl (fun _ => 0))), (q63, .inl (G.2.1.1, 756, .inl (fun _ => 0))), (q71, .inl (G.2.1.1, 64, .inl (fun _ => 0))), (q79, .inl (G.2.1.1, 16, .inl (fun _ => 0)))]) rfl ?_
  refine C_aload_n (n := 85) dX8_init_84 rfl rfl ?_
  refine C_bipush (v := nI 16) (n := 87) dX8_init_85 rfl rfl ?_
  refine C_newa (n := 89) (by decide) (Nat.le_of_ble_eq_true rfl) (Nat.le_of_ble_eq_true rfl) dX8_init_87 rfl (fun q87 => ?_)
  refine C_put (k0 := 0) (ci := 8) (j := 19) (n := 92) inX8 tyX8_ok nmX8 rfl (by decide) rfl rfl tF_RX8_40 rfl rfl rfl rfl (Nat.le_of_ble_eq_true rfl) dX8_init_89 rfl ?_
  refine VC.eqw (w' := [(a, .inr (8, [.int 0, .int 0, .ref q7, .ref q15, .ref q23, .ref q30, .ref q38, .int 0, .int 0, .ref q46, .int 0, .int 0, .int 0, .ref q54, .int 0, .int 0, .ref q63, .ref q71, .ref q79, .ref q87, .long 0, .null, .null])), (q7, .inl (G.2.1.1, 6, .inl (fun _ => 0))), (q15, .inl (G.2.1.1, 6, .inl (fun _ => 0))), (q23, .inl (G.2.1.1, 108, .inl (fun _ => 0))), (q30, .inl (G.2.1.1, 5, .inl (fun _ => 0))), (q38, .inl (G.2.1.1, 18, .inl (fun _ => 0))), (q46, .inl (G.2.1.1, 40, .inl (fun _ => 0))), (q54, .inl (G.2.1.1, 6, .inl (fun _ => 0))), (q63, .inl (G.2.1.1, 756, .inl (fun _ => 0))), (q71, .inl (G.2.1.1, 64, .inl (fun _ => 0))), (q79, .inl (G.2.1.1, 16, .inl (fun _ => 0))), (q87, .inl (G.2.1.1, 16, .inl (fun _ => 0)))]) rfl ?_
  refine C_aload_n (n := 93) dX8_init_92 rfl rfl ?_
  refine C_iconst (v := nI 2) (n := 94) dX8_init_93 rfl rfl ?_
  refine C_newz (n := 96) (by decide) (Nat.le_of_ble_eq_true rfl) (Nat.le_of_ble_eq_true rfl) dX8_init_94 rfl (fun q94 => ?_)
  refine C_put (k0 := 0) (ci := 8) (j := 21) (n := 99) inX8 tyX8_ok nmX8 rfl (by decide) rfl rfl tF_RX8_43 rfl rfl rfl rfl (Nat.le_of_ble_eq_true rfl) dX8_init_96 rfl ?_
  refine VC.eqw (w' := [(a, .inr (8, [.int 0, .int 0, .ref q7, .ref q15, .ref q23, .ref q30, .ref q38, .int 0, .int 0, .ref q46, .int 0, .int 0, .int 0, .ref q54, .int 0, .int 0, .ref q63, .ref q71, .ref q79, .ref q87, .long 0, .ref q94, .null])), (q7, .inl (G.2.1.1, 6, .inl (fun _ => 0))), (q15, .inl (G.2.1.1, 6, .inl (fun _ => 0))), (q23, .inl (G.2.1.1, 108, .inl (fun _ => 0))), (q30, .inl (G.2.1.1, 5, .inl (fun _ => 0))), (q38, .inl (G.2.1.1, 18, .inl (fun _ => 0))), (q46, .inl (G.2.1.1, 40, .inl (fun _ => 0))), (q54, .inl (G.2.1.1, 6, .inl (fun _ => 0))), (q63, .inl (G.2.1.1, 756, .inl (fun _ => 0))), (q71, .inl (G.2.1.1, 64, .inl (fun _ => 0))), (q79, .inl (G.2.1.1, 16, .inl (fun _ => 0))), (q87, .inl (G.2.1.1, 16, .inl (fun _ => 0))), (q94, .inl (G.2.1.2.1, 2, .inl (fun _ => 0)))]) rfl ?_
  refine C_aload_n (n := 100) dX8_init_99 rfl rfl ?_
  refine C_bipush (v := nI 108) (n := 102) dX8_init_100 rfl rfl ?_
  refine C_newa (n := 104) (by decide) (Nat.le_of_ble_eq_true rfl) (Nat.le_of_ble_eq_true rfl) dX8_init_102 rfl (fun q102 => ?_)
  refine C_put (k0 := 0) (ci := 8) (j := 22) (n := 107) inX8 tyX8_ok nmX8 rfl (by decide) rfl rfl tF_RX8_47 rfl rfl rfl rfl (Nat.le_of_ble_eq_true rfl) dX8_init_104 rfl ?_
  refine VC.eqw (w' := [(a, .inr (8, [.int 0, .int 0, .ref q7, .ref q15, .ref q23, .ref q30, .ref q38, .int 0, .int 0, .ref q46, .int 0, .int 0, .int 0, .ref q54, .int 0, .int 0, .ref q63, .ref q71, .ref q79, .ref q87, .long 0, .ref q94, .ref q102])), (q7, .inl (G.2.1.1, 6, .inl (fun _ => 0))), (q15, .inl (G.2.1.1, 6, .inl (fun _ => 0))), (q23, .inl (G.2.1.1, 108, .inl (fun _ => 0))), (q30, .inl (G.2.1.1, 5, .inl (fun _ => 0))), (q38, .inl (G.2.1.1, 18, .inl (fun _ => 0))), (q46, .inl (G.2.1.1, 40, .inl (fun _ => 0))), (q54, .inl (G.2.1.1, 6, .inl (fun _ => 0))), (q63, .inl (G.2.1.1, 756, .inl (fun _ => 0))), (q71, .inl (G.2.1.1, 64, .inl (fun _ => 0))), (q79, .inl (G.2.1.1, 16, .inl (fun _ => 0))), (q87, .inl (G.2.1.1, 16, .inl (fun _ => 0))), (q94, .inl (G.2.1.2.1, 2, .inl (fun _ => 0))), (q102, .inl (G.2.1.1, 108, .inl (fun _ => 0)))]) rfl ?_
  refine C_aload_n (n := 108) dX8_init_107 rfl rfl ?_
  refine C_iconst (v := nI 0) (n := 109) dX8_init_108 rfl rfl ?_
  refine C_puti (k0 := 0) (ci := 8) (j := 0) (n := 112) inX8 tyX8_ok nmX8 rfl (by decide) rfl tF_RX8_50 rfl rfl rfl (Nat.le_of_ble_eq_true rfl) dX8_init_109 rfl ?_
  refine VC.eqw (w' := [(a, .inr (8, [.int (nI 0), .int 0, .ref q7, .ref q15, .ref q23, .ref q30, .ref q38, .int 0, .int 0, .ref q46, .int 0, .int 0, .int 0, .ref q54, .int 0, .int 0, .ref q63, .ref q71, .ref q79, .ref q87, .long 0, .ref q94, .ref q102])), (q7, .inl (G.2.1.1, 6, .inl (fun _ => 0))), (q15, .inl (G.2.1.1, 6, .inl (fun _ => 0))), (q23, .inl (G.2.1.1, 108, .inl (fun _ => 0))), (q30, .inl (G.2.1.1, 5, .inl (fun _ => 0))), (q38, .inl (G.2.1.1, 18, .inl (fun _ => 0))), (q46, .inl (G.2.1.1, 40, .inl (fun _ => 0))), (q54, .inl (G.2.1.1, 6, .inl (fun _ => 0))), (q63, .inl (G.2.1.1, 756, .inl (fun _ => 0))), (q71, .inl (G.2.1.1, 64, .inl (fun _ => 0))), (q79, .inl (G.2.1.1, 16, .inl (fun _ => 0))), (q87, .inl (G.2.1.1, 16, .inl (fun _ => 0))), (q94, .inl (G.2.1.2.1, 2, .inl (fun _ => 0))), (q102, .inl (G.2.1.1, 108, .inl (fun _ => 0)))]) rfl ?_
  exact C_ret dX8_init_112 (Nat.le_of_ble_eq_true rfl) (Nat.le_of_ble_eq_true rfl) ⟨[q7, q15, q23, q30, q38, q46, q54, q63, q71, q79, q87, q94, q102], rfl, model_lay a q7 q15 q23 q30 q38 q46 q54 q63 q71 q79 q87 q94 q102⟩
theorem cn_X1 (pre : va_W) (a : Nat) : Cn G l A 2 14 132 yX1_init cX1_init 1 a (.inr (1, [.null, .null, .null, .null, .int 0, .int 0])) pre (fun w => ∃ as : List Nat, as.length = 14 ∧ w = lay G 3 15 (a :: as)) := by
  refine Cn.of (by decide +kernel) rfl (Nat.le_of_ble_eq_true rfl) ?_
  show VC G l A RX1 cX1_init 1 2 14 132 _ 0 0 0 [some (.ref a)] [] pre _
  refine C_aload_n (n := 1) dX1_init_0 rfl rfl ?_
  refine C_obj (n := 4) tM_RX1_3 (by decide) (Nat.le_of_ble_eq_true rfl) dX1_init_1 rfl ?_
  refine C_aload_n (n := 5) dX1_init_4 rfl rfl ?_
  refine C_bipush (v := nI 6) (n := 7) dX1_init_5 rfl rfl ?_
  refine C_newa (n := 9) (by decide) (Nat.le_of_ble_eq_true rfl) (Nat.le_of_ble_eq_true rfl) dX1_init_7 rfl (fun q7 => ?_)
  refine C_put (k0 := 0) (ci := 1) (j := 0) (n := 12) inX1 tyX1_ok nmX1 rfl (by decide) rfl rfl tF_RX1_9 rfl rfl rfl rfl (Nat.le_of_ble_eq_true rfl) dX1_init_9 rfl ?_
  refine C_aload_n (n := 13) dX1_init_12 rfl rfl ?_
  refine C_bipush (v := nI 6) (n := 15) dX1_init_13 rfl rfl ?_
  refine C_newa (n := 17) (by decide) (Nat.le_of_ble_eq_true rfl) (Nat.le_of_ble_eq_true rfl) dX1_init_15 rfl (fun q15 => ?_)
  refine C_put (k0 := 0) (ci := 1) (j := 1) (n := 20) inX1 tyX1_ok nmX1 rfl (by decide) rfl rfl tF_RX1_15 rfl rfl rfl rfl (Nat.le_of_ble_eq_true rfl) dX1_init_17 rfl ?_
  refine C_aload_n (n := 21) dX1_init_20 rfl rfl ?_
  refine C_new (ci := 5) (fs := [.null, .null, .null, .null, .null, .int 0, .int 0]) (n := 24) inX5 tyX5_ok tL_RX1_18 tB_RX5 tN_RX5 rfl (fun j hj => by rcases (show j = 0 ∨ j = 1 ∨ j = 2 ∨ j = 3 ∨ j = 4 ∨ j = 5 ∨ j = 6 by omega) with rfl | rfl | rfl | rfl | rfl | rfl | rfl <;> rfl) (Nat.le_of_ble_eq_true rfl) (Nat.le_of_ble_eq_true rfl) dX1_init_21 rfl (fun q21 => ?_)
  refine C_dup (n := 25) dX1_init_24 rfl rfl ?_
  refine C_initN (n := 28) (cn_X5 stB_6 _ _) (by decide) (by decide) (by decide +kernel) tI_yX5_init tN_RX5 tC_yX5_init ⟨by decide +kernel, by decide +kernel, by decide +kernel⟩ rfl (Nat.le_of_ble_eq_true rfl) (Nat.le_of_ble_eq_true rfl) (Nat.le_of_ble_eq_true rfl) dX1_init_25 rfl (fun w' hw => ?_)
  obtain ⟨x1, x2, x3, x4, x5, rfl⟩ := hw
  refine C_put (k0 := 0) (ci := 1) (j := 2) (n := 31) inX1 tyX1_ok nmX1 rfl (by decide) rfl rfl tF_RX1_21 rfl rfl rfl rfl (Nat.le_of_ble_eq_true rfl) dX1_init_28 rfl ?_
  refine C_aload_n (n := 32) dX1_init_31 rfl rfl ?_
  refine C_new (ci := 5) (fs := [.null, .null, .null, .null, .null, .int 0, .int 0]) (n := 35) inX5 tyX5_ok tL_RX1_18 tB_RX5 tN_RX5 rfl (fun j hj => by rcases (show j = 0 ∨ j = 1 ∨ j = 2 ∨ j = 3 ∨ j = 4 ∨ j = 5 ∨ j = 6 by omega) with rfl | rfl | rfl | rfl | rfl | rfl | rfl <;> rfl) (Nat.le_of_ble_eq_true rfl) (Nat.le_of_ble_eq_true rfl) dX1_init_32 rfl (fun q32 => ?_)
  refine C_dup (n := 36) dX1_init_35 rfl rfl ?_
  refine C_initN (n := 39) (cn_X5 stB_12 _ _) (by decide) (by decide) (by decide +kernel) tI_yX5_init tN_RX5 tC_yX5_init ⟨by decide +kernel, by decide +kernel, by decide +kernel⟩ rfl (Nat.le_of_ble_eq_true rfl) (Nat.le_of_ble_eq_true rfl) (Nat.le_of_ble_eq_true rfl) dX1_init_36 rfl (fun w' hw => ?_)
  obtain ⟨y1, y2, y3, y4, y5, rfl⟩ := hw
  refine C_put (k0 := 0) (ci := 1) (j := 3) (n := 42) inX1 tyX1_ok nmX1 rfl (by decide) rfl rfl tF_RX1_25 rfl rfl rfl rfl (Nat.le_of_ble_eq_true rfl) dX1_init_39 rfl ?_
  have h := lay_app G (b := 6) (n1 := 6) (n2 := 6) (as := [q21, x1, x2, x3, x4, x5]) (as' := [q32, y1, y2, y3, y4, y5]) rfl (by decide +kernel) (by decide +kernel)
  have h := (congrArg (fun z => (q15, (.inl (G.2.1.1, 6, .inl (fun _ => 0)) : va_E)) :: z) h).trans (lay_cons G (b := 5) (by decide +kernel) rfl)
  have h := (congrArg (fun z => (q7, (.inl (G.2.1.1, 6, .inl (fun _ => 0)) : va_E)) :: z) h).trans (lay_cons G (b := 4) (by decide +kernel) rfl)
  have h := (congrArg (fun z => (a, (.inr (1, [.ref q7, .ref q15, .ref q21, .ref q32, .int 0, .int 0]) : va_E)) :: z) h).trans (lay_cons G (b := 3) (by decide +kernel) rfl)
  exact C_ret dX1_init_42 (Nat.le_of_ble_eq_true rfl) (Nat.le_of_ble_eq_true rfl) ⟨q7 :: q15 :: ([q21, x1, x2, x3, x4, x5] ++ [q32, y1, y2, y3, y4, y5]), rfl, h⟩
theorem cn_X0 (pre : va_W) (a : Nat) : Cn G l A 2 85 854 yX0_init cX0_init 2 a (.inr (0, [.null, .int 0, .int 0])) pre (fun w => ∃ as : List Nat, as.length = 85 ∧ w = lay G 18 86 (a :: as)) := by
  refine Cn.of (by decide +kernel) rfl (Nat.le_of_ble_eq_true rfl) ?_
  show VC G l A RX0 cX0_init 2 2 85 854 _ 0 0 0 [some (.ref a), none] [] pre _
  refine C_aload_n (n := 1) dX0_init_0 rfl rfl ?_
  refine C_obj (n := 4) tM_RX0_3 (by decide) (Nat.le_of_ble_eq_true rfl) dX0_init_1 rfl ?_
  refine C_aload_n (n := 5) dX0_init_4 rfl rfl ?_
  refine C_bipush (v := nI 14) (n := 7) dX0_init_5 rfl rfl ?_
  refine C_newq (n := 10) tL_RX0_9 (by decide) (Nat.le_of_ble_eq_true rfl) (Nat.le_of_ble_eq_true rfl) dX0_init_7 rfl (fun q7 => ?_)
  refine C_put (k0 := 0) (ci := 0) (j := 0) (n := 13) inX0 tyX0_ok nmX0 rfl (by decide) rfl rfl tF_RX0_11 rfl rfl rfl rfl (Nat.le_of_ble_eq_true rfl) dX0_init_10 rfl ?_
  refine C_iconst (v := nI 0) (n := 14) dX0_init_13 rfl rfl ?_
  refine C_istore_n (n := 15) dX0_init_14 rfl (Nat.le_of_ble_eq_true rfl) (Nat.le_of_ble_eq_true rfl) ?_
  refine VC.eqw (w' := [(a, .inr (0, [.ref q7, .int 0, .int 0])), (q7, .inl (G.2.1.2.2, 14, .inr (.inr (.inr (.inr (fun k => if k < 0 then some (([] : List Nat).getD (6 * k) 0) else none))))))] ++ lay G 20 (6 * 0) []) (by simp [lay]) ?_
  refine down (z := 14) (P := fun i => ∀ as : List Nat, as.length = 6 * i → VC G l A RX0 cX0_init 2 2 85 854 _ (1 + 6 * i) (14 + 60 * i) 15 [some (.ref a), some (.int (nI i))] [] pre ([(a, .inr (0, [.ref q7, .int 0, .int 0])), (q7, .inl (G.2.1.2.2, 14, .inr (.inr (.inr (.inr (fun k => if k < i then some (as.getD (6 * k) 0) else none))))))] ++ lay G 20 (6 * i) as)) ?_ ?_ 0 (Nat.zero_le _) [] rfl
  · intro as has
    refine C_iload_n (n := 16) dX0_init_15 rfl rfl ?_
    refine C_bipush (v := nI 14) (n := 18) dX0_init_16 rfl rfl ?_
    refine C_icmp_ge (n := 21) (tgt := 40) dX0_init_18 rfl rfl (fun _ => ?_) (fun h => absurd (by decide) h)
    refine C_ret dX0_init_40 (Nat.le_of_ble_eq_true rfl) (Nat.le_of_ble_eq_true rfl) ⟨q7 :: as, congrArg (· + 1) has, ?_⟩
    exact acts_lay has
  · intro i hi ih as has
    refine C_iload_n (n := 16) dX0_init_15 rfl rfl ?_
    refine C_bipush (v := nI 14) (n := 18) dX0_init_16 rfl rfl ?_
    refine C_icmp_ge (n := 21) (tgt := 40) dX0_init_18 rfl rfl (fun h => absurd h (nI_ge hi (by decide))) (fun _ => ?_)
    refine C_aload_n (n := 22) dX0_init_21 rfl rfl ?_
    refine C_get (k0 := 0) (ci := 0) (j := 0) (n := 25) inX0 rfl (by decide) rfl tF_RX0_11 rfl rfl dX0_init_22 rfl ?_
    refine C_iload_n (n := 26) dX0_init_25 rfl rfl ?_
    refine C_new (ci := 5) (fs := [.null, .null, .null, .null, .null, .int 0, .int 0]) (n := 29) inX5 tyX5_ok tL_RX0_9 tB_RX5 tN_RX5 rfl (fun j hj => by rcases (show j = 0 ∨ j = 1 ∨ j = 2 ∨ j = 3 ∨ j = 4 ∨ j = 5 ∨ j = 6 by omega) with rfl | rfl | rfl | rfl | rfl | rfl | rfl <;> rfl) (by omega) (by omega) dX0_init_26 rfl (fun q26 => ?_)
    refine C_dup (n := 30) dX0_init_29 rfl rfl ?_
    refine C_initN (n := 33) (cn_X5 (stB_act hi) _ _) (by decide) (by decide) (by decide +kernel) tI_yX5_init tN_RX5 tC_yX5_init ⟨by decide +kernel, by decide +kernel, by decide +kernel⟩ rfl (by omega) (by omega) (Nat.le_of_ble_eq_true rfl) dX0_init_30 rfl (fun w' hw => ?_)
    obtain ⟨x1, x2, x3, x4, x5, rfl⟩ := hw
    rw [List.append_assoc, lay_app G has (clo_acts i (by omega)) (clo_st (stB_act hi))]
    refine C_aast (n := 34) (N := 14) (i := i) (k0 := 1) (k1 := 2 + 6 * i) rfl (act_get has) hi (by decide) dX0_init_33 rfl ?_
    refine C_iinc (n := 37) dX0_init_34 rfl rfl (nI_1 _) (Nat.le_of_ble_eq_true rfl) ?_
    refine C_goto (tgt := 15) dX0_init_37 rfl ?_
    have e1 : 1 + 6 * i + 1 + 5 = 1 + 6 * (i + 1) := by omega
    have e2 : 14 + 60 * i + 7 + 53 = 14 + 60 * (i + 1) := by omega
    rw [e1, e2]
    refine VC.eqw ?_ (ih (as ++ [q26, x1, x2, x3, x4, x5]) (by rw [List.length_append, has]; rfl))
    exact act_set has
theorem cn_X4 (pre : va_W) (a : Nat) : Cn G l A 2 14 124 yX4_init cX4_init 2 a (.inr (4, [.null, .null])) pre (fun w => ∃ as : List Nat, as.length = 14 ∧ w = lay G 104 15 (a :: as)) := by
  refine Cn.of (by decide +kernel) rfl (Nat.le_of_ble_eq_true rfl) ?_
  show VC G l A RX4 cX4_init 2 2 14 124 _ 0 0 0 [some (.ref a), none] [] pre _
  refine C_aload_n (n := 1) dX4_init_0 rfl rfl ?_
  refine C_obj (n := 4) tM_RX4_3 (by decide) (Nat.le_of_ble_eq_true rfl) dX4_init_1 rfl ?_
  refine C_aload_n (n := 5) dX4_init_4 rfl rfl ?_
  refine C_iconst (v := nI 2) (n := 6) dX4_init_5 rfl rfl ?_
  refine C_newq (n := 9) tL_RX4_9 (by decide) (Nat.le_of_ble_eq_true rfl) (Nat.le_of_ble_eq_true rfl) dX4_init_6 rfl (fun q6 => ?_)
  refine C_put (k0 := 0) (ci := 4) (j := 0) (n := 12) inX4 tyX4_ok nmX4 rfl (by decide) rfl rfl tF_RX4_11 rfl rfl rfl rfl (Nat.le_of_ble_eq_true rfl) dX4_init_9 rfl ?_
  refine C_aload_n (n := 13) dX4_init_12 rfl rfl ?_
  refine C_iconst (v := nI 2) (n := 14) dX4_init_13 rfl rfl ?_
  refine C_newz (n := 16) (by decide) (Nat.le_of_ble_eq_true rfl) (Nat.le_of_ble_eq_true rfl) dX4_init_14 rfl (fun q14 => ?_)
  refine C_put (k0 := 0) (ci := 4) (j := 1) (n := 19) inX4 tyX4_ok nmX4 rfl (by decide) rfl rfl tF_RX4_17 rfl rfl rfl rfl (Nat.le_of_ble_eq_true rfl) dX4_init_16 rfl ?_
  refine C_iconst (v := nI 0) (n := 20) dX4_init_19 rfl rfl ?_
  refine C_istore_n (n := 21) dX4_init_20 rfl (Nat.le_of_ble_eq_true rfl) (Nat.le_of_ble_eq_true rfl) ?_
  refine VC.eqw (w' := [(a, .inr (4, [.ref q6, .ref q14])), (q6, .inl (G.2.1.2.2, 2, .inr (.inr (.inr (.inr (fun k => if k < 0 then some (([] : List Nat).getD (6 * k) 0) else none)))))), (q14, .inl (G.2.1.2.1, 2, .inl (fun _ => 0)))] ++ lay G 106 (6 * 0) []) (by simp [lay]) ?_
  refine down (z := 2) (P := fun i => ∀ as : List Nat, as.length = 6 * i → VC G l A RX4 cX4_init 2 2 14 124 _ (2 + 6 * i) (4 + 60 * i) 21 [some (.ref a), some (.int (nI i))] [] pre ([(a, .inr (4, [.ref q6, .ref q14])), (q6, .inl (G.2.1.2.2, 2, .inr (.inr (.inr (.inr (fun k => if k < i then some (as.getD (6 * k) 0) else none)))))), (q14, .inl (G.2.1.2.1, 2, .inl (fun _ => 0)))] ++ lay G 106 (6 * i) as)) ?_ ?_ 0 (Nat.zero_le _) [] rfl
  · intro as has
    refine C_iload_n (n := 22) dX4_init_21 rfl rfl ?_
    refine C_iconst (v := nI 2) (n := 23) dX4_init_22 rfl rfl ?_
    refine C_icmp_ge (n := 26) (tgt := 45) dX4_init_23 rfl rfl (fun _ => ?_) (fun h => absurd (by decide) h)
    refine VC.perm (w' := [(a, .inr (4, [.ref q6, .ref q14])), (q6, .inl (G.2.1.2.2, 2, .inr (.inr (.inr (.inr (fun k => if k < 2 then some (as.getD (6 * k) 0) else none))))))] ++ (lay G 106 (6 * 2) as ++ [(q14, .inl (G.2.1.2.1, 2, .inl (fun _ => 0)))])) (perm3 _ _ _ _) ?_
    refine C_ret dX4_init_45 (Nat.le_of_ble_eq_true rfl) (Nat.le_of_ble_eq_true rfl) ⟨q6 :: (as ++ [q14]), by rw [List.length_cons, List.length_append, has]; rfl, ?_⟩
    exact slots_lay has
  · intro i hi ih as has
    refine C_iload_n (n := 22) dX4_init_21 rfl rfl ?_
    refine C_iconst (v := nI 2) (n := 23) dX4_init_22 rfl rfl ?_
    refine C_icmp_ge (n := 26) (tgt := 45) dX4_init_23 rfl rfl (fun h => absurd h (nI_ge hi (by decide))) (fun _ => ?_)
    refine C_aload_n (n := 27) dX4_init_26 rfl rfl ?_
    refine C_get (k0 := 0) (ci := 4) (j := 0) (n := 30) inX4 rfl (by decide) rfl tF_RX4_11 rfl rfl dX4_init_27 rfl ?_
    refine C_iload_n (n := 31) dX4_init_30 rfl rfl ?_
    refine C_new (ci := 5) (fs := [.null, .null, .null, .null, .null, .int 0, .int 0]) (n := 34) inX5 tyX5_ok tL_RX4_9 tB_RX5 tN_RX5 rfl (fun j hj => by rcases (show j = 0 ∨ j = 1 ∨ j = 2 ∨ j = 3 ∨ j = 4 ∨ j = 5 ∨ j = 6 by omega) with rfl | rfl | rfl | rfl | rfl | rfl | rfl <;> rfl) (by omega) (by omega) dX4_init_31 rfl (fun q31 => ?_)
    refine C_dup (n := 35) dX4_init_34 rfl rfl ?_
    refine C_initN (n := 38) (cn_X5 (stB_slot hi) _ _) (by decide) (by decide) (by decide +kernel) tI_yX5_init tN_RX5 tC_yX5_init ⟨by decide +kernel, by decide +kernel, by decide +kernel⟩ rfl (by omega) (by omega) (Nat.le_of_ble_eq_true rfl) dX4_init_35 rfl (fun w' hw => ?_)
    obtain ⟨x1, x2, x3, x4, x5, rfl⟩ := hw
    rw [List.append_assoc, lay_app G has (clo_slots i (by omega)) (clo_st (stB_slot hi))]
    refine C_aast (n := 39) (N := 2) (i := i) (k0 := 1) (k1 := 3 + 6 * i) rfl (slot_get has) hi (by decide) dX4_init_38 rfl ?_
    refine C_iinc (n := 42) dX4_init_39 rfl rfl (nI_1 _) (Nat.le_of_ble_eq_true rfl) ?_
    refine C_goto (tgt := 21) dX4_init_42 rfl ?_
    have e1 : 2 + 6 * i + 1 + 5 = 2 + 6 * (i + 1) := by omega
    have e2 : 4 + 60 * i + 7 + 53 = 4 + 60 * (i + 1) := by omega
    rw [e1, e2]
    refine VC.eqw ?_ (ih (as ++ [q31, x1, x2, x3, x4, x5]) (by rw [List.length_append, has]; rfl))
    exact slot_set has
theorem cn_X7 (pre : va_W) (a : Nat) : Cn G l A 3 124 1215 yX7_init cX7_init 1 a (.inr (7, [.null, .null, .null, .null, .null, .null, .long 0])) pre (fun w => ∃ as : List Nat, as.length = 124 ∧ w = lay G 0 125 (a :: as)) := by
  refine Cn.of (by decide +kernel) rfl (Nat.le_of_ble_eq_true rfl) ?_
  show VC G l A RX7 cX7_init 1 3 124 1215 _ 0 0 0 [some (.ref a)] [] pre _
  refine C_aload_n (n := 1) dX7_init_0 rfl rfl ?_
  refine C_obj (n := 4) tM_RX7_1 (by decide) (Nat.le_of_ble_eq_true rfl) dX7_init_1 rfl ?_
  refine C_aload_n (n := 5) dX7_init_4 rfl rfl ?_
  refine C_new (ci := 6) (fs := [.null, .int 0]) (n := 8) inX6 tyX6_ok tL_RX7_7 tB_RX6 tN_RX6 rfl (fun j hj => by rcases (show j = 0 ∨ j = 1 by omega) with rfl | rfl <;> rfl) (Nat.le_of_ble_eq_true rfl) (Nat.le_of_ble_eq_true rfl) dX7_init_5 rfl (fun q5 => ?_)
  refine C_dup (n := 9) dX7_init_8 rfl rfl ?_
  refine C_initN (n := 12) (cn_X6 _ _) (by decide) (by decide) (by decide +kernel) tI_yX6_init tN_RX6 tC_yX6_init ⟨by decide +kernel, by decide +kernel, by decide +kernel⟩ rfl (Nat.le_of_ble_eq_true rfl) (Nat.le_of_ble_eq_true rfl) (Nat.le_of_ble_eq_true rfl) dX7_init_9 rfl (fun w0 hw => ?_)
  obtain ⟨as0, has0, rfl⟩ := hw
  refine C_put (k0 := 0) (ci := 7) (j := 0) (n := 15) inX7 tyX7_ok nmX7 rfl (by decide) rfl rfl tF_RX7_10 rfl rfl rfl rfl (Nat.le_of_ble_eq_true rfl) dX7_init_12 rfl ?_
  refine VC.eqw (w' := (a, .inr (7, [.ref q5, .null, .null, .null, .null, .null, .long 0])) :: lay G 1 2 (q5 :: as0)) rfl ?_
  refine C_aload_n (n := 16) dX7_init_15 rfl rfl ?_
  refine C_new (ci := 1) (fs := [.null, .null, .null, .null, .int 0, .int 0]) (n := 19) inX1 tyX1_ok tL_RX7_16 tB_RX1 tN_RX1 rfl (fun j hj => by rcases (show j = 0 ∨ j = 1 ∨ j = 2 ∨ j = 3 ∨ j = 4 ∨ j = 5 by omega) with rfl | rfl | rfl | rfl | rfl | rfl <;> rfl) (Nat.le_of_ble_eq_true rfl) (Nat.le_of_ble_eq_true rfl) dX7_init_16 rfl (fun q16 => ?_)
  refine C_dup (n := 20) dX7_init_19 rfl rfl ?_
  refine C_initN (n := 23) (cn_X1 _ _) (by decide) (by decide) (by decide +kernel) tI_yX1_init tN_RX1 tC_yX1_init ⟨by decide +kernel, by decide +kernel, by decide +kernel⟩ rfl (Nat.le_of_ble_eq_true rfl) (Nat.le_of_ble_eq_true rfl) (Nat.le_of_ble_eq_true rfl) dX7_init_20 rfl (fun w1 hw => ?_)
  obtain ⟨as1, has1, rfl⟩ := hw
  refine C_put (k0 := 0) (ci := 7) (j := 1) (n := 26) inX7 tyX7_ok nmX7 rfl (by decide) rfl rfl tF_RX7_19 rfl rfl rfl rfl (Nat.le_of_ble_eq_true rfl) dX7_init_23 rfl ?_
  refine VC.eqw (w' := (a, .inr (7, [.ref q5, .ref q16, .null, .null, .null, .null, .long 0])) :: (lay G 1 2 (q5 :: as0) ++ lay G 3 15 (q16 :: as1))) rfl ?_
  refine C_aload_n (n := 27) dX7_init_26 rfl rfl ?_
  refine C_new (ci := 0) (fs := [.null, .int 0, .int 0]) (n := 30) inX0 tyX0_ok tL_RX7_23 tB_RX0 tN_RX0 rfl (fun j hj => by rcases (show j = 0 ∨ j = 1 ∨ j = 2 by omega) with rfl | rfl | rfl <;> rfl) (Nat.le_of_ble_eq_true rfl) (Nat.le_of_ble_eq_true rfl) dX7_init_27 rfl (fun q27 => ?_)
  refine C_dup (n := 31) dX7_init_30 rfl rfl ?_
  refine C_init (n := 34) (cn_X0 _ _) (by decide) (by decide) tM_RX7_25 tI_yX0_init tN_RX0 tC_yX0_init ⟨by decide +kernel, by decide +kernel, by decide +kernel⟩ rfl (Nat.le_of_ble_eq_true rfl) (Nat.le_of_ble_eq_true rfl) (Nat.le_of_ble_eq_true rfl) dX7_init_31 rfl (fun w2 hw => ?_)
  obtain ⟨as2, has2, rfl⟩ := hw
  refine C_put (k0 := 0) (ci := 7) (j := 2) (n := 37) inX7 tyX7_ok nmX7 rfl (by decide) rfl rfl tF_RX7_26 rfl rfl rfl rfl (Nat.le_of_ble_eq_true rfl) dX7_init_34 rfl ?_
  refine VC.eqw (w' := (a, .inr (7, [.ref q5, .ref q16, .ref q27, .null, .null, .null, .long 0])) :: ((lay G 1 2 (q5 :: as0) ++ lay G 3 15 (q16 :: as1)) ++ lay G 18 86 (q27 :: as2))) rfl ?_
  refine C_aload_n (n := 38) dX7_init_37 rfl rfl ?_
  refine C_new (ci := 4) (fs := [.null, .null]) (n := 41) inX4 tyX4_ok tL_RX7_30 tB_RX4 tN_RX4 rfl (fun j hj => by rcases (show j = 0 ∨ j = 1 by omega) with rfl | rfl <;> rfl) (Nat.le_of_ble_eq_true rfl) (Nat.le_of_ble_eq_true rfl) dX7_init_38 rfl (fun q38 => ?_)
  refine C_dup (n := 42) dX7_init_41 rfl rfl ?_
  refine C_init (n := 45) (cn_X4 _ _) (by decide) (by decide) tM_RX7_32 tI_yX4_init tN_RX4 tC_yX4_init ⟨by decide +kernel, by decide +kernel, by decide +kernel⟩ rfl (Nat.le_of_ble_eq_true rfl) (Nat.le_of_ble_eq_true rfl) (Nat.le_of_ble_eq_true rfl) dX7_init_42 rfl (fun w3 hw => ?_)
  obtain ⟨as3, has3, rfl⟩ := hw
  refine C_put (k0 := 0) (ci := 7) (j := 3) (n := 48) inX7 tyX7_ok nmX7 rfl (by decide) rfl rfl tF_RX7_33 rfl rfl rfl rfl (Nat.le_of_ble_eq_true rfl) dX7_init_45 rfl ?_
  refine VC.eqw (w' := (a, .inr (7, [.ref q5, .ref q16, .ref q27, .ref q38, .null, .null, .long 0])) :: (((lay G 1 2 (q5 :: as0) ++ lay G 3 15 (q16 :: as1)) ++ lay G 18 86 (q27 :: as2)) ++ lay G 104 15 (q38 :: as3))) rfl ?_
  refine C_aload_n (n := 49) dX7_init_48 rfl rfl ?_
  refine C_new (ci := 3) (fs := [.null, .null]) (n := 52) inX3 tyX3_ok tL_RX7_37 tB_RX3 tN_RX3 rfl (fun j hj => by rcases (show j = 0 ∨ j = 1 by omega) with rfl | rfl <;> rfl) (Nat.le_of_ble_eq_true rfl) (Nat.le_of_ble_eq_true rfl) dX7_init_49 rfl (fun q49 => ?_)
  refine C_dup (n := 53) dX7_init_52 rfl rfl ?_
  refine C_initN (n := 56) (cn_X3 _ _) (by decide) (by decide) (by decide +kernel) tI_yX3_init tN_RX3 tC_yX3_init ⟨by decide +kernel, by decide +kernel, by decide +kernel⟩ rfl (Nat.le_of_ble_eq_true rfl) (Nat.le_of_ble_eq_true rfl) (Nat.le_of_ble_eq_true rfl) dX7_init_53 rfl (fun w4 hw => ?_)
  obtain ⟨as4, has4, rfl⟩ := hw
  refine C_put (k0 := 0) (ci := 7) (j := 4) (n := 59) inX7 tyX7_ok nmX7 rfl (by decide) rfl rfl tF_RX7_40 rfl rfl rfl rfl (Nat.le_of_ble_eq_true rfl) dX7_init_56 rfl ?_
  refine VC.eqw (w' := (a, .inr (7, [.ref q5, .ref q16, .ref q27, .ref q38, .ref q49, .null, .long 0])) :: ((((lay G 1 2 (q5 :: as0) ++ lay G 3 15 (q16 :: as1)) ++ lay G 18 86 (q27 :: as2)) ++ lay G 104 15 (q38 :: as3)) ++ lay G 119 3 (q49 :: as4))) rfl ?_
  refine C_aload_n (n := 60) dX7_init_59 rfl rfl ?_
  refine C_new (ci := 2) (fs := [.null, .null, .int 0, .int 0, .int 0, .int 0]) (n := 63) inX2 tyX2_ok tL_RX7_44 tB_RX2 tN_RX2 rfl (fun j hj => by rcases (show j = 0 ∨ j = 1 ∨ j = 2 ∨ j = 3 ∨ j = 4 ∨ j = 5 by omega) with rfl | rfl | rfl | rfl | rfl | rfl <;> rfl) (Nat.le_of_ble_eq_true rfl) (Nat.le_of_ble_eq_true rfl) dX7_init_60 rfl (fun q60 => ?_)
  refine C_dup (n := 64) dX7_init_63 rfl rfl ?_
  refine C_initN (n := 67) (cn_X2 _ _) (by decide) (by decide) (by decide +kernel) tI_yX2_init tN_RX2 tC_yX2_init ⟨by decide +kernel, by decide +kernel, by decide +kernel⟩ rfl (Nat.le_of_ble_eq_true rfl) (Nat.le_of_ble_eq_true rfl) (Nat.le_of_ble_eq_true rfl) dX7_init_64 rfl (fun w5 hw => ?_)
  obtain ⟨as5, has5, rfl⟩ := hw
  refine C_put (k0 := 0) (ci := 7) (j := 5) (n := 70) inX7 tyX7_ok nmX7 rfl (by decide) rfl rfl tF_RX7_47 rfl rfl rfl rfl (Nat.le_of_ble_eq_true rfl) dX7_init_67 rfl ?_
  refine VC.eqw (w' := (a, .inr (7, [.ref q5, .ref q16, .ref q27, .ref q38, .ref q49, .ref q60, .long 0])) :: (((((lay G 1 2 (q5 :: as0) ++ lay G 3 15 (q16 :: as1)) ++ lay G 18 86 (q27 :: as2)) ++ lay G 104 15 (q38 :: as3)) ++ lay G 119 3 (q49 :: as4)) ++ lay G 122 3 (q60 :: as5))) rfl ?_
  have l0 : (q5 :: as0).length = 2 := congrArg (· + 1) has0
  have h1 : lay G 1 2 (q5 :: as0) ++ lay G 3 15 (q16 :: as1) = lay G 1 17 ((q5 :: as0) ++ (q16 :: as1)) := lay_app G (b := 1) (n1 := 2) (n2 := 15) l0 (by decide +kernel) (by decide +kernel)
  have l1 : ((q5 :: as0) ++ (q16 :: as1)).length = 17 := by rw [List.length_append, l0, List.length_cons, has1]
  have h2 : lay G 1 17 ((q5 :: as0) ++ (q16 :: as1)) ++ lay G 18 86 (q27 :: as2) = lay G 1 103 (((q5 :: as0) ++ (q16 :: as1)) ++ (q27 :: as2)) := lay_app G (b := 1) (n1 := 17) (n2 := 86) l1 (by decide +kernel) (by decide +kernel)
  have l2 : (((q5 :: as0) ++ (q16 :: as1)) ++ (q27 :: as2)).length = 103 := by rw [List.length_append, l1, List.length_cons, has2]
  have h3 : lay G 1 103 (((q5 :: as0) ++ (q16 :: as1)) ++ (q27 :: as2)) ++ lay G 104 15 (q38 :: as3) = lay G 1 118 ((((q5 :: as0) ++ (q16 :: as1)) ++ (q27 :: as2)) ++ (q38 :: as3)) := lay_app G (b := 1) (n1 := 103) (n2 := 15) l2 (by decide +kernel) (by decide +kernel)
  have l3 : ((((q5 :: as0) ++ (q16 :: as1)) ++ (q27 :: as2)) ++ (q38 :: as3)).length = 118 := by rw [List.length_append, l2, List.length_cons, has3]
  have h4 : lay G 1 118 ((((q5 :: as0) ++ (q16 :: as1)) ++ (q27 :: as2)) ++ (q38 :: as3)) ++ lay G 119 3 (q49 :: as4) = lay G 1 121 (((((q5 :: as0) ++ (q16 :: as1)) ++ (q27 :: as2)) ++ (q38 :: as3)) ++ (q49 :: as4)) := lay_app G (b := 1) (n1 := 118) (n2 := 3) l3 (by decide +kernel) (by decide +kernel)
  have l4 : (((((q5 :: as0) ++ (q16 :: as1)) ++ (q27 :: as2)) ++ (q38 :: as3)) ++ (q49 :: as4)).length = 121 := by rw [List.length_append, l3, List.length_cons, has4]
  have h5 : lay G 1 121 (((((q5 :: as0) ++ (q16 :: as1)) ++ (q27 :: as2)) ++ (q38 :: as3)) ++ (q49 :: as4)) ++ lay G 122 3 (q60 :: as5) = lay G 1 124 ((((((q5 :: as0) ++ (q16 :: as1)) ++ (q27 :: as2)) ++ (q38 :: as3)) ++ (q49 :: as4)) ++ (q60 :: as5)) := lay_app G (b := 1) (n1 := 121) (n2 := 3) l4 (by decide +kernel) (by decide +kernel)
  have l5 : ((((((q5 :: as0) ++ (q16 :: as1)) ++ (q27 :: as2)) ++ (q38 :: as3)) ++ (q49 :: as4)) ++ (q60 :: as5)).length = 124 := by rw [List.length_append, l4, List.length_cons, has5]
  rw [h1, h2, h3, h4, h5]
  refine C_ret dX7_init_70 (Nat.le_of_ble_eq_true rfl) (Nat.le_of_ble_eq_true rfl) ⟨((((((q5 :: as0) ++ (q16 :: as1)) ++ (q27 :: as2)) ++ (q38 :: as3)) ++ (q49 :: as4)) ++ (q60 :: as5)), l5, lay_cons G (b := 0) (n := 124) (by decide +kernel) ?_⟩
  unfold cl0
  rw [sh_0]
  show (.inr (7, [.ref q5, .ref q16, .ref q27, .ref q38, .ref q49, .ref q60, .long 0]) : va_E) = .inr (7, [.ref (((((((q5 :: as0) ++ (q16 :: as1)) ++ (q27 :: as2)) ++ (q38 :: as3)) ++ (q49 :: as4)) ++ (q60 :: as5)).getD 0 0), .ref (((((((q5 :: as0) ++ (q16 :: as1)) ++ (q27 :: as2)) ++ (q38 :: as3)) ++ (q49 :: as4)) ++ (q60 :: as5)).getD 2 0), .ref (((((((q5 :: as0) ++ (q16 :: as1)) ++ (q27 :: as2)) ++ (q38 :: as3)) ++ (q49 :: as4)) ++ (q60 :: as5)).getD 17 0), .ref (((((((q5 :: as0) ++ (q16 :: as1)) ++ (q27 :: as2)) ++ (q38 :: as3)) ++ (q49 :: as4)) ++ (q60 :: as5)).getD 103 0), .ref (((((((q5 :: as0) ++ (q16 :: as1)) ++ (q27 :: as2)) ++ (q38 :: as3)) ++ (q49 :: as4)) ++ (q60 :: as5)).getD 118 0), .ref (((((((q5 :: as0) ++ (q16 :: as1)) ++ (q27 :: as2)) ++ (q38 :: as3)) ++ (q49 :: as4)) ++ (q60 :: as5)).getD 121 0), .long 0])
  have g0 : ((((((q5 :: as0) ++ (q16 :: as1)) ++ (q27 :: as2)) ++ (q38 :: as3)) ++ (q49 :: as4)) ++ (q60 :: as5)).getD 0 0 = q5 := by
    rw [gtB l4 (by omega), gtB l3 (by omega), gtB l2 (by omega), gtB l1 (by omega), gtB l0 (by omega)]
    rfl
  have g1 : ((((((q5 :: as0) ++ (q16 :: as1)) ++ (q27 :: as2)) ++ (q38 :: as3)) ++ (q49 :: as4)) ++ (q60 :: as5)).getD 2 0 = q16 := by
    rw [gtB l4 (by omega), gtB l3 (by omega), gtB l2 (by omega), gtB l1 (by omega), gtA l0 (by omega)]
    rfl
  have g2 : ((((((q5 :: as0) ++ (q16 :: as1)) ++ (q27 :: as2)) ++ (q38 :: as3)) ++ (q49 :: as4)) ++ (q60 :: as5)).getD 17 0 = q27 := by
    rw [gtB l4 (by omega), gtB l3 (by omega), gtB l2 (by omega), gtA l1 (by omega)]
    rfl
  have g3 : ((((((q5 :: as0) ++ (q16 :: as1)) ++ (q27 :: as2)) ++ (q38 :: as3)) ++ (q49 :: as4)) ++ (q60 :: as5)).getD 103 0 = q38 := by
    rw [gtB l4 (by omega), gtB l3 (by omega), gtA l2 (by omega)]
    rfl
  have g4 : ((((((q5 :: as0) ++ (q16 :: as1)) ++ (q27 :: as2)) ++ (q38 :: as3)) ++ (q49 :: as4)) ++ (q60 :: as5)).getD 118 0 = q49 := by
    rw [gtB l4 (by omega), gtA l3 (by omega)]
    rfl
  have g5 : ((((((q5 :: as0) ++ (q16 :: as1)) ++ (q27 :: as2)) ++ (q38 :: as3)) ++ (q49 :: as4)) ++ (q60 :: as5)).getD 121 0 = q60 := by
    rw [gtA l4 (by omega)]
    rfl
  rw [g0, g1, g2, g3, g4, g5]
end CT

