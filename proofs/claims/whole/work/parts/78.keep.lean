/-! what is held stays well -/
def KP (σ : Sg) : Prop := OKS σ ∧ OKN σ
section KEEP
variable {σ : Sg}
theorem kp_S (H : KP σ) {s : Nat} (hs : s ≤ 5) : KP (upS σ s) := by
  obtain ⟨⟨a1, a2, a3, a4, a5, a6, a7, a8⟩, b⟩ := H
  exact ⟨⟨a1, a2, a3, a4, a5, a6, hs, a8⟩, b⟩
theorem kp_R (H : KP σ) {r : Nat} {x : Option Rw} (hx : ∀ y, x = some y → y.1 < 3 ∧ y.2.1 ≤ 40) : KP (upR σ r x) := by
  obtain ⟨⟨a1, a2, a3, a4, a5, a6, a7, a8⟩, b⟩ := H
  refine ⟨⟨a1, a2, a3, fun q y hq => ?_, a5, a6, a7, a8⟩, b⟩
  have hq : (if q = r then x else gR σ q) = some y := hq
  split at hq
  · exact hx y hq
  · exact a4 q y hq
theorem kp_B (H : KP σ) {B : List Nat} (hB : OB B) : KP (upB σ B) := by
  obtain ⟨⟨a1, a2, a3, a4, a5, a6, a7, a8⟩, b⟩ := H
  exact ⟨⟨a1, a2, a3, a4, hB, a6, a7, a8⟩, b⟩
theorem kp_K (H : KP σ) {L : List Nat} (hL : L.length ≤ 16) : KP (upK σ L) := by
  obtain ⟨⟨a1, a2, a3, a4, a5, a6, a7, a8⟩, b⟩ := H
  exact ⟨⟨a1, a2, a3, a4, a5, a6, a7, hL⟩, b⟩
theorem kp_TP (H : KP σ) {T : Tn} {P : List Tn} (hT : OKP T) (h1 : 0 < T 1) (hP : ∀ (j : Nat) (U : Tn), P[j]? = some U → OKP U ∧ 0 < U 1) : KP (upTP σ T P) := by
  obtain ⟨⟨a1, a2, a3, a4, a5, a6, a7, a8⟩, b⟩ := H
  exact ⟨⟨hT, hP, a3, a4, a5, a6, a7, a8⟩, fun z => absurd (show T 1 = 0 from z) (by omega)⟩
theorem past_ok {P : List Tn} {T : Tn} {Q : Tn → Prop} (hP : ∀ (j : Nat) (U : Tn), P[j]? = some U → Q U) (hT : Q T) : ∀ (j : Nat) (U : Tn), (pastOf P T)[j]? = some U → Q U := by
  intro j U hj
  have hm := List.mem_of_getElem? hj
  unfold pastOf at hm
  split at hm
  · rcases List.mem_append.mp hm with q | q
    · obtain ⟨i, hi⟩ := List.getElem?_of_mem q; exact hP i U hi
    · rw [List.mem_singleton.mp q]; exact hT
  · rcases List.mem_append.mp hm with q | q
    · obtain ⟨i, hi⟩ := List.getElem?_of_mem (List.mem_of_mem_drop q); exact hP i U hi
    · rw [List.mem_singleton.mp q]; exact hT
theorem kp_act (H : KP σ) {T' : Tn} (h1 : 0 < gT σ 1) (hT : OKT T') (h4 : T' 4 ≤ 999) (e : T' 1 = gT σ 1) : KP (act σ T') := kp_TP H ⟨hT, h4⟩ (by omega) (past_ok H.1.2.1 ⟨H.1.1, h1⟩)
theorem kp_Row (H : KP σ) (x y z : Int32) : KP (fRow σ x y z).2 := by
  unfold fRow
  split
  · rename_i q
    rw [Bool.and_eq_true, Bool.and_eq_true] at q
    obtain ⟨⟨q1, q2⟩, q3⟩ := q
    split
    · exact kp_S H (by omega)
    · rename_i z0
      refine kp_S (kp_R H (fun y hy => ?_)) (by omega)
      cases hy
      obtain ⟨j, -, hj, rfl⟩ := btw_t (by decide) q2
      have q3 := of_decide_eq_true q3
      refine ⟨by rw [nI_clamp (by omega)]; omega, ?_⟩
      show z.toNatClampNeg ≤ 40
      have : z.toNatClampNeg = z.toInt.toNat := rfl
      omega
  · exact H
theorem kp_Set (H : KP σ) (x i v : Int32) : KP (fSet σ x i v).2 := by
  unfold fSet
  split
  · split
    · exact kp_S H (by omega)
    · rename_i y hy
      split
      · refine kp_S (kp_R H (fun w hw => ?_)) (by omega)
        cases hw
        exact H.1.2.2.2.1 _ y hy
      · exact kp_S H (by omega)
  · exact H
theorem kp_Drop (H : KP σ) (x : Int32) : KP (fDrop σ x).2 := by
  unfold fDrop
  split
  · split
    · exact kp_S H (by omega)
    · exact kp_S (kp_R H (fun w hw => by cases hw)) (by omega)
  · exact H
theorem kp_Copy (H : KP σ) (x i y j n : Int32) : KP (fCopy σ x i y j n).2 := by
  unfold fCopy
  split
  · split
    · rename_i a b ha hb
      split
      · exact kp_S H (by omega)
      · split
        · refine kp_S (kp_R H (fun w hw => ?_)) (by omega)
          cases hw
          exact H.1.2.2.2.1 _ b hb
        · exact kp_S H (by omega)
    · exact kp_S H (by omega)
  · exact H
theorem kp_Feed (H : KP σ) (x : Int32) : KP (fFeed σ x).2 := by
  unfold fFeed
  split
  · rename_i q
    obtain ⟨j, -, hj, rfl⟩ := btw_t (by decide) q
    split
    · rename_i hl
      obtain ⟨b1, b2⟩ := H.1.2.2.2.2.1
      refine kp_B H ⟨by rw [List.length_append]; show _ + 1 ≤ 100; omega, fun i b hb => ?_⟩
      rcases List.mem_append.mp (List.mem_of_getElem? hb) with q | q
      · obtain ⟨k, hk⟩ := List.getElem?_of_mem q; exact b2 k b hk
      · rw [List.mem_singleton.mp q, nI_clamp (by omega)]; omega
    · exact H
  · exact H
theorem kp_BF (H : KP σ) {w : Nat} (hw : w ≤ 3) : KP (upBF σ w) := by
  obtain ⟨⟨a1, a2, a3, a4, a5, a6, a7, a8⟩, b⟩ := H
  exact ⟨⟨a1, a2, a3, a4, ⟨Nat.zero_le _, fun i b hb => by
    have hb : ([] : List Nat)[i]? = some b := hb
    simp at hb⟩, hw, a7, a8⟩, b⟩
theorem kp_TB (H : KP σ) {T : Tn} (hT : OKP T) (h1 : 0 < T 1) : KP (upTB σ T) := by
  obtain ⟨⟨a1, a2, a3, a4, a5, a6, a7, a8⟩, b⟩ := H
  exact ⟨⟨hT, fun j U hj => by
    have hj : ([] : List Tn)[j]? = some U := hj
    simp at hj, a3, a4, ⟨Nat.zero_le _, fun i b hb => by
    have hb : ([] : List Nat)[i]? = some b := hb
    simp at hb⟩, a6, a7, a8⟩, fun z => absurd (show T 1 = 0 from z) (by omega)⟩
theorem kp_Sick (H : KP σ) (x n : Int32) : KP (fSick σ x n).2 := by
  have o := H.1.1
  have o1 := o.1.2.1
  unfold fSick
  split
  · rename_i q
    rw [Bool.and_eq_true] at q
    obtain ⟨g, hg, rfl⟩ := inN_t (by omega) q.1
    obtain ⟨m, -, hm, rfl⟩ := btw_t (by decide) q.2
    rw [nI_clamp (by omega), nI_clamp (by omega)]
    exact kp_act H (by omega) (okt_ill o.1 hg hm) (by rw [up_ne (by omega)]; exact o.2) (up_ne (by omega))
  · exact H
theorem kp_Swap (H : KP σ) (x n : Int32) : KP (fSwap σ x n).2 := by
  have o := H.1.1
  have o1 := o.1.2.1
  have o0 := o.1.1
  unfold fSwap
  split
  · rename_i q
    rw [Bool.and_eq_true] at q
    obtain ⟨g, hg, rfl⟩ := inN_t (by omega) q.1
    obtain ⟨m, hm, rfl⟩ := inN_t (by omega) q.2
    rw [nI_clamp (by omega), nI_clamp (by omega)]
    exact kp_act H (by omega) (okt_fir o.1 hg hm) (by rw [up_ne (by omega)]; exact o.2) (up_ne (by omega))
  · exact H
theorem kp_Pace (H : KP σ) (x n : Int32) : KP (fPace σ x n).2 := by
  have o := H.1.1
  have o1 := o.1.2.1
  unfold fPace
  split
  · rename_i q
    rw [Bool.and_eq_true] at q
    obtain ⟨g, hg, rfl⟩ := inN_t (by omega) q.1
    obtain ⟨m, -, hm, rfl⟩ := btw_t (by decide) q.2
    rw [nI_clamp (by omega), nI_clamp (by omega)]
    exact kp_act H (by omega) (okt_ste o.1 hg hm) (by rw [up_ne (by omega)]; exact o.2) (up_ne (by omega))
  · exact H
theorem kp_zz (H : KP σ) : 0 < gT σ 0 → 0 < gT σ 1 := fun z => by
  by_cases q : gT σ 1 = 0
  · have := (H.2 q).1; omega
  · omega
theorem kp_Spoil (H : KP σ) (x n : Int32) : KP (fSpoil σ x n).2 := by
  have o := H.1.1
  have o0 := o.1.1
  unfold fSpoil
  split
  · rename_i q
    rw [Bool.and_eq_true] at q
    obtain ⟨g, hg, rfl⟩ := inN_t (by omega) q.1
    obtain ⟨m, -, hm, rfl⟩ := btw_t (by decide) q.2
    rw [nI_clamp (by omega), nI_clamp (by omega)]
    exact kp_act H (kp_zz H (by omega)) (o.1.spo hg (by omega)) (by rw [up_ne (by omega)]; exact o.2) (up_ne (by omega))
  · exact H
theorem kp_Quarrel (H : KP σ) (x y n : Int32) : KP (fQuarrel σ x y n).2 := by
  have o := H.1.1
  have o1 := o.1.2.1
  unfold fQuarrel
  split
  · rename_i q
    rw [Bool.and_eq_true, Bool.and_eq_true, Bool.and_eq_true] at q
    obtain ⟨g, hg, rfl⟩ := inN_t (by omega) q.1.1.1
    obtain ⟨m, hm, rfl⟩ := inN_t (by omega) q.1.1.2
    rw [nI_clamp (by omega), nI_clamp (by omega)]
    split
    · exact H
    · have fg := (o.1.2.2.2.2.2.2.2.1 g hg).2.2.2.2.2
      have fm := (o.1.2.2.2.2.2.2.2.1 m hm).2.2.2.2.2
      have lt : ∀ a b, a < 64 → b < 6 → a ^^^ 1 * 2 ^ b < 64 := fun a b ha hb => by
        have : 1 * 2 ^ b < 2 ^ 6 := by rw [Nat.one_mul]; exact Nat.pow_lt_pow_right (by decide) hb
        exact Nat.xor_lt_two_pow (n := 6) ha this
      refine kp_act H (by omega) ?_ (by unfold qrl; rw [up_ne (by omega), up_ne (by omega)]; exact o.2) (by unfold qrl; rw [up_ne (by omega), up_ne (by omega)])
      unfold qrl
      exact okt_foe (okt_foe o.1 hg (lt _ _ fg (by omega))) (by rw [up_ne (by omega)]; exact hm) (lt _ _ fm (by omega))
  · exact H
theorem kp_dys (H : KP σ) (h1 : 0 < gT σ 1) : ∀ n, gT σ 4 + n ≤ 999 → KP (dys σ n) ∧ gT (dys σ n) 1 = gT σ 1 ∧ gT (dys σ n) 4 = gT σ 4 + n
  | 0, _ => ⟨H, rfl, rfl⟩
  | n + 1, hn => by
    obtain ⟨a, b, c⟩ := kp_dys H h1 n (by omega)
    obtain ⟨p1, p2, p3⟩ := itP_keep a.1.1.1 (by omega) 1 (by omega)
    have p3 := p3 1 (by omega)
    have p1 : OKT (passT (gT (dys σ n))) := p1
    have p2 : passT (gT (dys σ n)) 4 = gT (dys σ n) 4 + 1 := p2
    have p3 : passT (gT (dys σ n)) 1 = gT (dys σ n) 1 := p3
    refine ⟨kp_act a (by omega) p1 (by omega) p3, ?_, ?_⟩
    · show passT (gT (dys σ n)) 1 = _; omega
    · show passT (gT (dys σ n)) 4 = _; omega
theorem kp_Days (H : KP σ) (n : Int32) : KP (fDays σ n).2 := by
  unfold fDays
  split
  · exact H
  · split
    · split
      · exact (kp_dys H (by omega) _ (by assumption)).1
      · exact H
    · exact H
theorem kp_Undo (H : KP σ) : KP (fUndo σ).2 := by
  unfold fUndo
  split
  · exact H
  · rename_i T hT
    have hm := List.mem_of_getLast? hT
    obtain ⟨i, hi⟩ := List.getElem?_of_mem hm
    obtain ⟨p, q⟩ := H.1.2.1 i T hi
    refine kp_TP H p q (fun j U hj => ?_)
    obtain ⟨k, hk⟩ := List.getElem?_of_mem (List.dropLast_subset _ (List.mem_of_getElem? hj))
    exact H.1.2.1 k U hk
theorem kp_Image (H : KP σ) (x : Int32) : KP (fImage σ x).2 := by
  unfold fImage
  split
  · split
    · exact H
    · rename_i z
      obtain ⟨⟨a1, a2, a3, a4, a5, a6, a7, a8⟩, b⟩ := H
      refine ⟨⟨a1, a2, fun k T hk => ?_, a4, a5, a6, a7, a8⟩, fun y => absurd y z⟩
      have hk : (if k = x.toNatClampNeg then some (gT σ) else gIm σ k) = some T := hk
      split at hk
      · cases hk; exact ⟨a1, by omega⟩
      · exact a3 k T hk
  · exact H
theorem kp_Restore (H : KP σ) (x : Int32) : KP (fRestore σ x).2 := by
  unfold fRestore
  split
  · split
    · exact H
    · rename_i T hT
      obtain ⟨p, q⟩ := H.1.2.2.1 _ T hT
      exact kp_TP H p q (fun j U hj => by simp at hj)
  · exact H
theorem kp_As (H : KP σ) (x n : Int32) : KP (fAs σ x n).2 := by
  unfold fAs
  split
  · split
    · exact kp_S H (by omega)
    · exact kp_S H (by omega)
  · exact H
theorem kp_Ask (H : KP σ) (x w : Int32) : KP (fAsk σ x w).2 := by
  unfold fAsk
  split
  · split
    · refine kp_K H ?_
      unfold aZL zL mL tL
      repeat' split
      all_goals simp
    · refine kp_K H ?_
      unfold aML mL tL
      repeat' split
      all_goals simp
  · exact H
theorem fin1_le (y : Option Rw) (i n : Int32) : fin1 y i n ≤ 5 := by
  unfold fin1
  repeat' split
  all_goals omega
theorem kp_told (H : KP σ) (x g r i n : Int32) (p lo m : Nat) : KP (toldA σ x g r i n p lo m).2 := by
  unfold toldA
  split
  · rename_i a ha
    unfold fTold at ha
    split at ha
    · split at ha
      · cases ha
      · rw [← Option.some.inj ha]; exact kp_S H (fin1_le _ _ _)
    · rw [← Option.some.inj ha]; exact H
  · exact kp_S H (by omega)
theorem kp_Who (H : KP σ) (x g r i n : Int32) : KP (fWho σ x g r i n).2 := kp_told H ..
theorem kp_Firsts (H : KP σ) (x g r i n : Int32) : KP (fFirsts σ x g r i n).2 := kp_told H ..
theorem kp_Steps (H : KP σ) (x g r i n : Int32) : KP (fSteps σ x g r i n).2 := kp_told H ..
end KEEP
