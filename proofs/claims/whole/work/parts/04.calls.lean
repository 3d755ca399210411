section VC
variable {G : Gm} {l : Launch} {own : String} {cc : ByteArray} {nL dep : Nat} {lg : Bool} {ret : Option FieldType} {Q : Option Value → Mem → Prop} {pc n : Nat} {lo : List (Option Value)} {st : List Value} {μ : Mem}
theorem Gx.moved {s U : State} {H : Heap} (hvm : s.vm.Alike U.vm) (hN : va_Nw nM s → va_Nw nM U) (hF : va_Nw nF s → va_Nw nF U) (h : Gx G s H) : Gx G U H :=
  ⟨fun q hq => ⟨va_X.moved hvm (h.1 q hq).1, (h.1 q hq).2⟩, by obtain ⟨fa, h1, h2⟩ := h.2.1; exact ⟨fa, h1, va_Z.moved hvm h2⟩, hN h.2.2.1, hF h.2.2.2⟩
theorem Gx.kept {s : State} {H H1 : Heap} (h : Gx G s H) (hz : H.size ≤ H1.size) (hq : ∀ a : Nat, a < H.size → ¬ AA G a → H1[a]? = H[a]?) : Gx G s H1 :=
  ⟨fun q hm => ⟨va_X.kept (h.1 q hm).1 (hq _ (h.1 q hm).2.1 (h.1 q hm).2.2), Nat.lt_of_lt_of_le (h.1 q hm).2.1 hz, (h.1 q hm).2.2⟩, by obtain ⟨fa, h1, h2⟩ := h.2.1; exact ⟨fa, h1, va_Z.kept h2 hq⟩, h.2.2⟩
theorem wd_blind (As : List Value) : FrameBlind (va_Pc As (Wd G μ)) := fun a U g mk q =>
  ⟨q.1, q.2.1, va_K.moved (u := U) (U := U.calling g mk a) (Vm.Alike.refl U.vm) q.2.2.1, q.2.2.2.1, Gx.moved (s := U) (U := U.calling g mk a) (Vm.Alike.refl U.vm) (fun h => va_Nw.same rfl rfl h) (fun h => va_Nw.same rfl rfl h) q.2.2.2.2⟩
theorem wd_pre {s U : State} {H : Heap} {locs : List Loc} (hK : va_K G.1 classes (tys G) s) (hx : Gx G s s.heap) (hH : Hp G s H locs μ) (hU : U.heap = H) (hW : s.WarmedH U.vm) : Wd G μ U := by
  refine ⟨by rw [hU]; exact hH.1, va_K.moved hW.alike hK, hH.2.1, ?_⟩
  rw [hU]
  exact Gx.moved hW.alike (fun h => va_Nw.warmM hW h) (fun h => va_Nw.warmF hW h) (hx.kept hH.2.2.1 hH.2.2.2.1)
theorem lm_entry {As : List Value} {k : Nat} (hc : As.all (fun v => v.category == 1) = true) (h : (lg_sl As).length ≤ nL) : lm false ((lg_sl As ++ List.replicate (nL - (lg_sl As).length) Slot.unset).toArray) nL (As.map some ++ List.replicate k none) := by
  have hl := lv_entry As (n := nL) h
  have key : ∀ (As : List Value) (b i : Nat) (v : Value), As.all (fun v => v.category == 1) = true → As[i]? = some v → (b + i, v) ∈ lv_args b As ∧ v.category = 1 := by
    intro As
    induction As with
    | nil => intro b i v _ h; simp at h
    | cons a t ih =>
      intro b i v hc h
      obtain ⟨h1, h2⟩ : a.category = 1 ∧ t.all (fun v => v.category == 1) = true := by simpa using hc
      cases i with
      | zero =>
        have : a = v := by simpa using h
        subst this
        exact ⟨List.mem_cons_self, h1⟩
      | succ i =>
        have h3 := ih (b + 1) i v h2 (by simpa using h)
        have e : b + (i + 1) = b + 1 + i := by omega
        refine ⟨?_, h3.2⟩
        rw [e]
        show _ ∈ (b, a) :: lv_args (if a.category = 2 then b + 2 else b + 1) t
        rw [h1]
        exact List.mem_cons_of_mem _ h3.1
  refine ⟨hl.1, hl.2.1, fun i v hi => ?_⟩
  have hA : As[i]? = some v := by
    rcases Nat.lt_or_ge i As.length with q | q
    · rw [List.getElem?_append_left (by rw [List.length_map]; exact q), List.getElem?_map] at hi
      cases hh : As[i]? with
      | none => rw [hh] at hi; simp at hi
      | some w => rw [hh] at hi; simpa using hi
    · rw [List.getElem?_append_right (by rw [List.length_map]; exact q), List.getElem?_replicate] at hi
      split at hi <;> simp at hi
  have h3 := key As 0 i v hc hA
  rw [Nat.zero_add] at h3
  exact ⟨hl.2.2 _ h3.1, fun _ => h3.2⟩
theorem Ct.ofLm {y : MethodName} {As : List Value} (hy : plainName y.cls = true) (hlm : lm lg ((lg_sl As ++ List.replicate (nL - (lg_sl As).length) Slot.unset).toArray) nL lo) (k : V G l y.cls cc nL dep lg ret Q 0 lo [] μ) : Ct G l dep y cc nL ret As μ Q := by
  refine Met.ofW (cc := cc) (maxL := nL) (ret := ret) hy rfl ?_
  intro p e s m args below meth c s₁ B hml hv
  obtain ⟨rfl, hP, hK, hD, hx⟩ := hv
  have hts : ∀ w ∈ Cond.code y cc nL ret :: TT, w.before As.toArray s = true := atoms_spec (ws := Cond.code y cc nL ret :: TT) B.pre
  have hr := B.returns
  have hlk := B.notSynchronized
  rw [lg_entry_eq]
  refine k p e _ s m As.toArray below meth c s.heap [] 0 0 _ _ ⟨B.exec, B.bytes, hml, findClass_of_methodNamed B.named, fun w h => hts w (List.mem_cons_of_mem _ h), hK, hx, Nat.le_refl _, Nat.le_refl _, Nat.le_refl _, Nat.le_refl _⟩ ⟨hP, hD, va_S.rf⟩ hlm ?_
  intro r μ' H' locs' ls' pc' hq hH' hrok
  have hQ : ∀ t : State, t.heap = H' → s.WarmedH t.vm → ((∃ (r' : Option Value) (μ' : Mem), Outcome.returned r = .returned r' ∧ Q r' μ' ∧ va_P G.1 classes (wl G μ') t.heap ∧ va_D (AA G) (wl G μ')) ∧ va_F (AA G) s t) := fun t ht _ => ⟨⟨r, μ', rfl, hq, by rw [ht]; exact hH'.1, hH'.2.1⟩, hH'.2.2.F ht⟩
  rcases hrok with ⟨x, rfl, hd, ty, he, hn⟩ | ⟨x, rfl, hd, he⟩ | ⟨a, cn, rfl, hd, he⟩ | ⟨rfl, hd, he⟩
  · exact W.zret B.exec B.bytes (hr.trans he) hn hQ hH'.2.2.2.2 hd hlk
  · exact W.lret B.exec B.bytes (hr.trans he) hQ hH'.2.2.2.2 hd hlk
  · exact W.aret B.exec B.bytes (hr.trans he) (Or.inl ⟨cn, rfl⟩) (Or.inr ⟨a, rfl⟩) hQ hH'.2.2.2.2 hd hlk
  · exact W.vret B.exec B.bytes (hr.trans he) hQ hH'.2.2.2.2 hd hlk
theorem Ct.of {y : MethodName} {As : List Value} (j : Nat) (hy : plainName y.cls = true) (hc : As.all (fun v => v.category == 1) = true) (h : (lg_sl As).length ≤ nL) (k : V G l y.cls cc nL dep false ret Q 0 (As.map some ++ List.replicate j none) [] μ) : Ct G l dep y cc nL ret As μ Q := Ct.ofLm hy (lm_entry hc h) k
theorem Ct.mono {y : MethodName} {As : List Value} {Q' : Option Value → Mem → Prop} (hQ : ∀ r μ', Q' r μ' → Q r μ') (h : Ct G l dep y cc nL ret As μ Q') : Ct G l dep y cc nL ret As μ Q := by
  intro p e ha hc hk s m args below hf hfit happ hpre
  obtain ⟨t, o, h1, h2, h3, h4⟩ := h p e ha hc hk s m args below hf hfit happ hpre
  obtain ⟨⟨⟨r, μ', e1, q, hP, hD⟩, hF⟩, hL⟩ := h4
  exact ⟨t, o, h1, h2, h3, ⟨⟨r, μ', e1, hQ _ _ q, hP, hD⟩, hF⟩, hL⟩
theorem va_callg {p : Program} {e : Env} {R : Room} {s : State} {m : MethodId} {args : Array Value} {below : List Frame} {meth : Method} {c : Code} {H : Heap} {locs : List Loc} {cells slots : Nat} {Qf : State → Prop} {ls : Array Slot} {st0 rest : List Value} {Qy : Option Value → Mem → Prop}
    (hr : va_Run p l e R s m args below meth c H locs cells slots 0 0 (F0 m pc ls st0) rest (fun st oc t => (∃ (r : Option Value) (μ' : Mem), oc = .returned r ∧ Qy r μ' ∧ va_P G.1 classes (wl G μ') t.heap ∧ va_D (AA G) (wl G μ')) ∧ va_F (AA G) st t) (AA G)) (hS : va_S (AA G) s.heap H locs)
    (kk : ∀ (r : Option Value) (μ' : Mem) (H1 : Heap) (locs1 : List Loc), Qy r μ' → Hp G s H1 locs1 μ' → W p l e R s m args below meth c H1 locs1 cells slots Qf (F0 m (pc + 3) ls (r.toList ++ rest))) : W p l e R s m args below meth c H locs cells slots Qf (F0 m pc ls st0) := by
  intro T hT X
  obtain ⟨v, st₀, t, T', L, h0, X', hL, e1, e2, ⟨⟨r, μ', hv, hp, hP, hD⟩, hz, hk⟩, st⟩ := hr T hT X
  cases hv
  rw [h0] at hz hk
  obtain ⟨t2, a1, b1⟩ := kk v μ' T'.heap (locs ++ L) hp ⟨by rw [e1]; exact hP, hD, Nat.le_trans hS.1 (by rw [e1]; exact hz), fun q h1 h2 => by rw [e1, hk q (Nat.lt_of_lt_of_le h1 hS.1) h2]; exact hS.2.1 q h1 h2, fun q hq => by
      rcases List.mem_append.mp hq with h | h
      · exact hS.2.2 q h
      · exact hL q h⟩ T' rfl X'
  exact ⟨t2, st t2 a1, b1⟩
def okY (y : MethodName) (np : Nat) : Prop := y.cls ≠ "java/lang/invoke/MethodHandle" ∧ y.cls ≠ "java/lang/invoke/VarHandle" ∧ (parseMethodDescriptor y.desc).map (fun d => d.parameters.length) = some np
theorem R_callV {dep' : Nat} {y : MethodName} {cy : ByteArray} {mL : Nat} {ry : Option FieldType} {As : List Value} {Qy : Option Value → Mem → Prop} {ci : Nat} {C : String} {TC : u_T} {N id ix np : Nat} {fs : List (Option (Option Nat))} {rest st0 : List Value}
    (hct : Ct G l dep' y cy mL ry (.ref (G.2.2.1 id) :: As) μ Qy) (hd : dep' < dep) (hmL : mL ≤ 15) (hyC : y.cls = C) (tM : Cond.methodLink own ix y ∈ lw_tbl) (tI : Cond.instanceMethod y ∈ lw_tbl) (tS : Cond.selects C y y ∈ lw_tbl) (tN : Cond.initialized C ∈ lw_tbl) (tC : Cond.code y cy mL ry ∈ lw_tbl) (hy : okY y np) (hnp : As.length = np)
    (hcl : classes[ci]? = some (C, TC, N)) (hs : sh id = .inl (ci, fs)) (hst0 : st0 = As.reverse ++ .ref (G.2.2.1 id) :: rest) (hrest : (rest.map fun v => v.category).sum ≤ 8) (hdg : decode cc pc = .ok (.invokevirtual ix, 3)) (hn : pc + 3 = n)
    (k : ∀ (r : Option Value) (μ' : Mem), Qy r μ' → V G l own cc nL dep lg ret Q n lo (r.toList ++ rest) μ') : V G l own cc nL dep lg ret Q pc lo st0 μ := by
  subst hn
  intro p e R s m args below meth c H locs cells slots Qf ls hC hH hL hF
  have hC0 := hC
  obtain ⟨hx, hb, hml, hown, hts, hK, hG, hfr, hlo, hce, hsl⟩ := hC0
  refine va_callg (va_runV (As := As) (rest := rest) (n := np) ⟨hx, hb, hml, hown, hts⟩ hct ⟨callB_of np hts (good_cTT tC) rfl rfl rfl (by rw [hyC]; exact hts _ (mTT tN rfl)) (hts _ (mTT tM rfl)) hy ⟨by show dep' + 1 ≤ R.frames; omega, by show 8 + (mL + 11) + 34 * dep' ≤ R.locals; omega⟩, hts _ (mTT tI rfl), hts _ (mTT tS rfl)⟩ ⟨wd_blind _, va_recv hK hH.1 hcl (ce_obj G μ hs), fun U hU hW => ⟨rfl, wd_pre hK hG hH hU hW⟩⟩ rfl hnp (hL.1.trans (by first | rfl | exact hml)) hst0 (lv_room hrest) hdg ⟨hce, hsl⟩) hH.2.2 (fun r μ' H1 locs1 hq hH1 => k r μ' hq p e R s m args below meth c H1 locs1 cells slots Qf ls hC hH1 hL hF)
theorem R_callS {dep' : Nat} {y : MethodName} {cy : ByteArray} {mL : Nat} {ry : Option FieldType} {As : List Value} {Qy : Option Value → Mem → Prop} {ix np : Nat} {rest st0 : List Value}
    (hct : Ct G l dep' y cy mL ry As μ Qy) (hd : dep' < dep) (hmL : mL ≤ 15) (tM : Cond.methodLink own ix y ∈ lw_tbl) (tT : Cond.static y ∈ lw_tbl) (tN : Cond.initialized y.cls ∈ lw_tbl) (tC : Cond.code y cy mL ry ∈ lw_tbl) (hy : okY y np) (hnp : As.length = np)
    (hst0 : st0 = As.reverse ++ rest) (hrest : (rest.map fun v => v.category).sum ≤ 8) (hdg : decode cc pc = .ok (.invokestatic ix, 3)) (hn : pc + 3 = n)
    (k : ∀ (r : Option Value) (μ' : Mem), Qy r μ' → V G l own cc nL dep lg ret Q n lo (r.toList ++ rest) μ') : V G l own cc nL dep lg ret Q pc lo st0 μ := by
  subst hn
  intro p e R s m args below meth c H locs cells slots Qf ls hC hH hL hF
  have hC0 := hC
  obtain ⟨hx, hb, hml, hown, hts, hK, hG, hfr, hlo, hce, hsl⟩ := hC0
  refine va_callg (va_runS (As := As) (rest := rest) (n := np) ⟨hx, hb, hml, hown, hts⟩ hct ⟨callB_of np hts (good_cTT tC) rfl rfl rfl (hts _ (mTT tN rfl)) (hts _ (mTT tM rfl)) hy ⟨by show dep' + 1 ≤ R.frames; omega, by show 8 + (mL + 11) + 34 * dep' ≤ R.locals; omega⟩, hts _ (mTT tT rfl)⟩ ⟨wd_blind _, fun U hU hW => ⟨rfl, wd_pre hK hG hH hU hW⟩⟩ rfl hnp (hL.1.trans (by first | rfl | exact hml)) hst0 (lv_room hrest) hdg ⟨hce, hsl⟩) hH.2.2 (fun r μ' H1 locs1 hq hH1 => k r μ' hq p e R s m args below meth c H1 locs1 cells slots Qf ls hC hH1 hL hF)
/-- the one call of a nest mate's static method: EelLocks.power out of Guesses -/
theorem R_callN {dep' : Nat} {cy : ByteArray} {mL : Nat} {ry : Option FieldType} {As : List Value} {Qy : Option Value → Mem → Prop} {np : Nat} {rest st0 : List Value} (hown0 : own = RX2)
    (hct : Ct G l dep' yX7_power cy mL ry As μ Qy) (hd : dep' < dep) (hmL : mL ≤ 15) (tT : Cond.static yX7_power ∈ lw_tbl) (tN : Cond.initialized RX7 ∈ lw_tbl) (tC : Cond.code yX7_power cy mL ry ∈ lw_tbl) (hy : okY yX7_power np) (hnp : As.length = np)
    (hst0 : st0 = As.reverse ++ rest) (hrest : (rest.map fun v => v.category).sum ≤ 8) (hdg : decode cc pc = .ok (.invokestatic 91, 3)) (hn : pc + 3 = n)
    (k : ∀ (r : Option Value) (μ' : Mem), Qy r μ' → V G l own cc nL dep lg ret Q n lo (r.toList ++ rest) μ') : V G l own cc nL dep lg ret Q pc lo st0 μ := by
  subst hn
  subst hown0
  intro p e R s m args below meth c H locs cells slots Qf ls hC hH hL hF
  have hC0 := hC
  obtain ⟨hx, hb, hml, hown, hts, hK, hG, hfr, hlo, hce, hsl⟩ := hC0
  refine va_callg (va_runSN (As := As) (rest := rest) (n := np) ⟨hx, hb, hml, hown, hts⟩ hct ⟨va_cnB np hts (good_cTT tC) rfl rfl rfl hG.2.2.1 (hts _ (mTT tN rfl)) hy ⟨by show dep' + 1 ≤ R.frames; omega, by show 8 + (mL + 11) + 34 * dep' ≤ R.locals; omega⟩, hts _ (mTT tT rfl), trivial⟩ ⟨wd_blind _, fun U hU hW => ⟨rfl, wd_pre hK hG hH hU hW⟩⟩ rfl hnp (hL.1.trans (by first | rfl | exact hml)) hst0 (lv_room hrest) hdg ⟨hce, hsl⟩) hH.2.2 (fun r μ' H1 locs1 hq hH1 => k r μ' hq p e R s m args below meth c H1 locs1 cells slots Qf ls hC hH1 hL hF)
end VC
