/-! pure: every act keeps the state in order -/
section WFS
variable {σ : GS}
theorem wf_act {S' : ST} (w : WF σ) (h : Wf (gC σ) S') : WF (act σ S') := by
  refine ⟨h, fun i hi => ?_, w.2.2⟩
  have hi' : i < (if gA σ < 14 then gA σ + 1 else 14) := hi
  show Wf (gC σ) (pushH (gS σ) (gH' σ) i)
  cases i with
  | zero => exact w.1
  | succ k =>
    refine w.2.1 k ?_
    by_cases e : gA σ < 14
    · rw [if_pos e] at hi'; omega
    · rw [if_neg e] at hi'; omega
theorem wf_write (w : WF σ) (x : Int32) : WF (fWrite σ x).2 := by
  unfold fWrite
  split
  · exact w
  · split
    · exact w
    · exact w
theorem wf_wipe (w : WF σ) : WF (fWipe σ).2 := w
theorem wf_canal (w : WF σ) : WF (fCanal σ).2 := by
  obtain ⟨w1, w2, w3, w4⟩ := rdT_wf (tx := gT σ) (len := gL σ)
  unfold fCanal
  cases hr : rdT (gT σ) (gL σ) with
  | mk o A =>
    cases o with
    | some q => exact w
    | none =>
      rw [hr] at w1 w2 w3 w4
      refine ⟨⟨⟨w2, w1, Nat.le_refl _, fun p hp => hp, w3, Nat.zero_le _⟩, ⟨fun p hp => hp, fun p q _ _ e => e, fun v hv => ⟨v, hv, rfl⟩⟩, w4⟩, fun i hi => absurd hi (by show ¬ i < 0; omega), fun s _ T hT => by cases hT⟩
theorem wf_pass (w : WF σ) : WF (fPass σ).2 := by
  unfold fPass
  split
  · exact w
  · rename_i e
    have o := w.1.1.2.2.2.2.2
    exact wf_act w ⟨ok_pass1 w.1.1 (by omega), pm_pass1 w.1.2.1, w.1.2.2⟩
theorem wf_give (w : WF σ) (x y : Int32) : WF (fGive σ x y).2 := by
  unfold fGive
  split
  · split
    · exact w
    · refine wf_act w ⟨w.1.1, w.1.2.1, fun j hj => ?_⟩
      show updN (sTea (gS σ)) _ _ j ≤ 9
      unfold updN
      have h1 := w.1.2.2 j hj
      split
      · rename_i e
        subst e
        omega
      · exact h1
  · exact w
theorem wf_letBy (w : WF σ) (x : Int32) : WF (fLetBy σ x).2 := by
  unfold fLetBy
  split
  · split
    · exact w
    · rename_i e
      obtain ⟨o1, o2, o3, o4, o5, o6⟩ := id w.1.1
      exact wf_act w ⟨⟨o1, o2, o3, swp_lt (by omega) o4, o5, o6⟩, pm_swp (by omega) w.1.2.1, w.1.2.2⟩
  · exact w
theorem wf_learn (w : WF σ) (x y : Int32) : WF (fLearn σ x y).2 := by
  unfold fLearn
  split
  · split
    · exact w
    · rename_i hy
      split
      · exact w
      · obtain ⟨o1, o2, o3, o4, o5, o6⟩ := id w.1.1
        refine wf_act w ⟨⟨o1, o2, o3, o4, fun k hk => ?_, o6⟩, w.1.2.1, w.1.2.2⟩
        show updN (sLaw (gS σ)) _ _ k < 4
        obtain ⟨m, hm, rfl⟩ := nI_of (x := y) (fun z => hy (Or.inl z))
        have q : ¬ nI 3 < nI m := fun z => hy (Or.inr z)
        rw [nI_ltI (by omega) hm] at q
        rw [nI_clamp hm]
        unfold updN
        split
        · omega
        · exact o5 k hk
  · exact w
theorem wf_undo (w : WF σ) : WF (fUndo σ).2 := by
  unfold fUndo
  cases h : gA σ with
  | zero => exact w
  | succ a => exact ⟨w.2.1 0 (by omega), fun i hi => w.2.1 (i + 1) (by have hi' : i < a := hi; omega), w.2.2⟩
theorem wf_keep (w : WF σ) (x : Int32) : WF (fKeep σ x).2 := by
  unfold fKeep
  split
  · refine ⟨w.1, w.2.1, fun s hs T hT => ?_⟩
    have hT' : (if s = x.toNatClampNeg then some (gS σ) else gK σ s) = some T := hT
    by_cases e : s = x.toNatClampNeg
    · rw [if_pos e] at hT'
      cases hT'
      exact w.1
    · rw [if_neg e] at hT'
      exact w.2.2 s hs T hT'
  · exact w
theorem wf_again (w : WF σ) (x : Int32) : WF (fAgain σ x).2 := by
  unfold fAgain
  split
  · rename_i e
    obtain ⟨hxl, -⟩ := inR_cl (by omega) e
    cases h : gK σ x.toNatClampNeg with
    | none => exact w
    | some T => exact ⟨w.2.2 _ hxl T h, fun i hi => absurd hi (by show ¬ i < 0; omega), w.2.2⟩
  · exact w
theorem wf_days (w : WF σ) (x m : Int32) : WF (fDays σ x m).2 := by
  unfold fDays
  split
  · split
    · exact w
    · exact w.z _
  · exact w
/-- a new object -/
def g0 : GS := mkG (0, 0, fun _ => 0, fun _ => 0) (mkS (fun _ => 0) (fun _ => 0) (fun _ => 0) (fun _ => 0) (fun _ => 0) 0) (fun _ => mkS (fun _ => 0) (fun _ => 0) (fun _ => 0) (fun _ => 0) (fun _ => 0) 0) 0 (fun _ => none) (fun _ => 0) 0 0
theorem wf_g0 : WF g0 := by
  refine ⟨⟨⟨by decide, by decide, by decide, fun p hp => absurd hp (by show ¬ p < 0; omega), fun p hp => absurd hp (by show ¬ p < 0; omega), by decide⟩, ⟨fun p hp => absurd hp (by show ¬ p < 0; omega), fun p q hp => absurd hp (by show ¬ p < 0; omega), fun p hp => absurd hp (by show ¬ p < 0; omega)⟩, fun p hp => absurd hp (by show ¬ p < 0; omega)⟩, fun i hi => absurd hi (by show ¬ i < 0; omega), fun s _ T hT => by cases hT⟩
end WFS

