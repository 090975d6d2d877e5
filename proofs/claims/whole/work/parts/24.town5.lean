section TOWN5
variable {G : Gt} {d : Nat} {h : Hp} {t : Nat} {T : Tn}
theorem TW.sor {g v : Nat} (hW : TW h t T) (hO : OKT T) (hg : g < T 1) : TW (hs h (t + 4) g (nI v)) t (up T (20 + g) v) := by
  obtain ⟨o0, o1, o2, o3, o4, o5, o6, o7, o8⟩ := id hO
  unfold TW at hW ⊢
  have e : ∀ j, (j < 20 ∨ 26 ≤ j) → up T (20 + g) v j = T j := fun j hj => up_ne (by omega)
  rw [hs_ne (show t ≠ t + 4 by omega), hs_ne (show t + 1 ≠ t + 4 by omega), hs_ne (show t + 2 ≠ t + 4 by omega), hs_ne (show t + 3 ≠ t + 4 by omega), hs_ne (show t + 5 ≠ t + 4 by omega), hs_ne (show t + 6 ≠ t + 4 by omega), hs_ne (show t + 7 ≠ t + 4 by omega), hs_ne (show t + 8 ≠ t + 4 by omega), hs_ne (show t + 9 ≠ t + 4 by omega)]
  rw [e 0 (by omega), e 1 (by omega), e 2 (by omega), e 3 (by omega), e 4 (by omega)]
  obtain ⟨a0, a1, a2, a3, a4, a5, a6, a7, a8, a9, a10, a11, a12, a13⟩ := hW
  refine ⟨a0, a1, a2, a3, a4, fun q hq => by rw [e _ (by omega)]; exact a5 q hq, fun q hq => by rw [e _ (by omega)]; exact a6 q hq, fun q hq => by rw [e _ (by omega)]; exact a7 q hq, fun q hq => ?_, fun q hq => by rw [e _ (by omega)]; exact a9 q hq, fun q hq => by rw [e _ (by omega)]; exact a10 q hq, fun q hq => by rw [e _ (by omega)]; exact a11 q hq, fun q hq => by rw [e _ (by omega)]; exact a12 q hq, fun q hq => by rw [e _ (by omega)]; exact a13 q hq⟩
  by_cases z : q = g
  · subst z; rw [hs_same, up_same]
  · rw [hs_ix z, up_ne (by omega)]; exact a8 q hq
theorem TW.art {g v : Nat} (hW : TW h t T) (hO : OKT T) (hg : g < T 1) : TW (hs h (t + 5) g (nI v)) t (up T (26 + g) v) := by
  obtain ⟨o0, o1, o2, o3, o4, o5, o6, o7, o8⟩ := id hO
  unfold TW at hW ⊢
  have e : ∀ j, (j < 26 ∨ 32 ≤ j) → up T (26 + g) v j = T j := fun j hj => up_ne (by omega)
  rw [hs_ne (show t ≠ t + 5 by omega), hs_ne (show t + 1 ≠ t + 5 by omega), hs_ne (show t + 2 ≠ t + 5 by omega), hs_ne (show t + 3 ≠ t + 5 by omega), hs_ne (show t + 4 ≠ t + 5 by omega), hs_ne (show t + 6 ≠ t + 5 by omega), hs_ne (show t + 7 ≠ t + 5 by omega), hs_ne (show t + 8 ≠ t + 5 by omega), hs_ne (show t + 9 ≠ t + 5 by omega)]
  rw [e 0 (by omega), e 1 (by omega), e 2 (by omega), e 3 (by omega), e 4 (by omega)]
  obtain ⟨a0, a1, a2, a3, a4, a5, a6, a7, a8, a9, a10, a11, a12, a13⟩ := hW
  refine ⟨a0, a1, a2, a3, a4, fun q hq => by rw [e _ (by omega)]; exact a5 q hq, fun q hq => by rw [e _ (by omega)]; exact a6 q hq, fun q hq => by rw [e _ (by omega)]; exact a7 q hq, fun q hq => by rw [e _ (by omega)]; exact a8 q hq, fun q hq => ?_, fun q hq => by rw [e _ (by omega)]; exact a10 q hq, fun q hq => by rw [e _ (by omega)]; exact a11 q hq, fun q hq => by rw [e _ (by omega)]; exact a12 q hq, fun q hq => by rw [e _ (by omega)]; exact a13 q hq⟩
  by_cases z : q = g
  · subst z; rw [hs_same, up_same]
  · rw [hs_ix z, up_ne (by omega)]; exact a9 q hq
theorem TW.fir {g v : Nat} (hW : TW h t T) (hO : OKT T) (hg : g < T 1) : TW (hs h (t + 6) g (nI v)) t (up T (32 + g) v) := by
  obtain ⟨o0, o1, o2, o3, o4, o5, o6, o7, o8⟩ := id hO
  unfold TW at hW ⊢
  have e : ∀ j, (j < 32 ∨ 38 ≤ j) → up T (32 + g) v j = T j := fun j hj => up_ne (by omega)
  rw [hs_ne (show t ≠ t + 6 by omega), hs_ne (show t + 1 ≠ t + 6 by omega), hs_ne (show t + 2 ≠ t + 6 by omega), hs_ne (show t + 3 ≠ t + 6 by omega), hs_ne (show t + 4 ≠ t + 6 by omega), hs_ne (show t + 5 ≠ t + 6 by omega), hs_ne (show t + 7 ≠ t + 6 by omega), hs_ne (show t + 8 ≠ t + 6 by omega), hs_ne (show t + 9 ≠ t + 6 by omega)]
  rw [e 0 (by omega), e 1 (by omega), e 2 (by omega), e 3 (by omega), e 4 (by omega)]
  obtain ⟨a0, a1, a2, a3, a4, a5, a6, a7, a8, a9, a10, a11, a12, a13⟩ := hW
  refine ⟨a0, a1, a2, a3, a4, fun q hq => by rw [e _ (by omega)]; exact a5 q hq, fun q hq => by rw [e _ (by omega)]; exact a6 q hq, fun q hq => by rw [e _ (by omega)]; exact a7 q hq, fun q hq => by rw [e _ (by omega)]; exact a8 q hq, fun q hq => by rw [e _ (by omega)]; exact a9 q hq, fun q hq => ?_, fun q hq => by rw [e _ (by omega)]; exact a11 q hq, fun q hq => by rw [e _ (by omega)]; exact a12 q hq, fun q hq => by rw [e _ (by omega)]; exact a13 q hq⟩
  by_cases z : q = g
  · subst z; rw [hs_same, up_same]
  · rw [hs_ix z, up_ne (by omega)]; exact a10 q hq
theorem TW.ste {g v : Nat} (hW : TW h t T) (hO : OKT T) (hg : g < T 1) : TW (hs h (t + 7) g (nI v)) t (up T (38 + g) v) := by
  obtain ⟨o0, o1, o2, o3, o4, o5, o6, o7, o8⟩ := id hO
  unfold TW at hW ⊢
  have e : ∀ j, (j < 38 ∨ 44 ≤ j) → up T (38 + g) v j = T j := fun j hj => up_ne (by omega)
  rw [hs_ne (show t ≠ t + 7 by omega), hs_ne (show t + 1 ≠ t + 7 by omega), hs_ne (show t + 2 ≠ t + 7 by omega), hs_ne (show t + 3 ≠ t + 7 by omega), hs_ne (show t + 4 ≠ t + 7 by omega), hs_ne (show t + 5 ≠ t + 7 by omega), hs_ne (show t + 6 ≠ t + 7 by omega), hs_ne (show t + 8 ≠ t + 7 by omega), hs_ne (show t + 9 ≠ t + 7 by omega)]
  rw [e 0 (by omega), e 1 (by omega), e 2 (by omega), e 3 (by omega), e 4 (by omega)]
  obtain ⟨a0, a1, a2, a3, a4, a5, a6, a7, a8, a9, a10, a11, a12, a13⟩ := hW
  refine ⟨a0, a1, a2, a3, a4, fun q hq => by rw [e _ (by omega)]; exact a5 q hq, fun q hq => by rw [e _ (by omega)]; exact a6 q hq, fun q hq => by rw [e _ (by omega)]; exact a7 q hq, fun q hq => by rw [e _ (by omega)]; exact a8 q hq, fun q hq => by rw [e _ (by omega)]; exact a9 q hq, fun q hq => by rw [e _ (by omega)]; exact a10 q hq, fun q hq => ?_, fun q hq => by rw [e _ (by omega)]; exact a12 q hq, fun q hq => by rw [e _ (by omega)]; exact a13 q hq⟩
  by_cases z : q = g
  · subst z; rw [hs_same, up_same]
  · rw [hs_ix z, up_ne (by omega)]; exact a11 q hq
theorem TW.ill {g v : Nat} (hW : TW h t T) (hO : OKT T) (hg : g < T 1) : TW (hs h (t + 8) g (nI v)) t (up T (44 + g) v) := by
  obtain ⟨o0, o1, o2, o3, o4, o5, o6, o7, o8⟩ := id hO
  unfold TW at hW ⊢
  have e : ∀ j, (j < 44 ∨ 50 ≤ j) → up T (44 + g) v j = T j := fun j hj => up_ne (by omega)
  rw [hs_ne (show t ≠ t + 8 by omega), hs_ne (show t + 1 ≠ t + 8 by omega), hs_ne (show t + 2 ≠ t + 8 by omega), hs_ne (show t + 3 ≠ t + 8 by omega), hs_ne (show t + 4 ≠ t + 8 by omega), hs_ne (show t + 5 ≠ t + 8 by omega), hs_ne (show t + 6 ≠ t + 8 by omega), hs_ne (show t + 7 ≠ t + 8 by omega), hs_ne (show t + 9 ≠ t + 8 by omega)]
  rw [e 0 (by omega), e 1 (by omega), e 2 (by omega), e 3 (by omega), e 4 (by omega)]
  obtain ⟨a0, a1, a2, a3, a4, a5, a6, a7, a8, a9, a10, a11, a12, a13⟩ := hW
  refine ⟨a0, a1, a2, a3, a4, fun q hq => by rw [e _ (by omega)]; exact a5 q hq, fun q hq => by rw [e _ (by omega)]; exact a6 q hq, fun q hq => by rw [e _ (by omega)]; exact a7 q hq, fun q hq => by rw [e _ (by omega)]; exact a8 q hq, fun q hq => by rw [e _ (by omega)]; exact a9 q hq, fun q hq => by rw [e _ (by omega)]; exact a10 q hq, fun q hq => by rw [e _ (by omega)]; exact a11 q hq, fun q hq => ?_, fun q hq => by rw [e _ (by omega)]; exact a13 q hq⟩
  by_cases z : q = g
  · subst z; rw [hs_same, up_same]
  · rw [hs_ix z, up_ne (by omega)]; exact a12 q hq
theorem TW.foe {g v : Nat} (hW : TW h t T) (hO : OKT T) (hg : g < T 1) : TW (hs h (t + 9) g (nI v)) t (up T (50 + g) v) := by
  obtain ⟨o0, o1, o2, o3, o4, o5, o6, o7, o8⟩ := id hO
  unfold TW at hW ⊢
  have e : ∀ j, (j < 50 ∨ 56 ≤ j) → up T (50 + g) v j = T j := fun j hj => up_ne (by omega)
  rw [hs_ne (show t ≠ t + 9 by omega), hs_ne (show t + 1 ≠ t + 9 by omega), hs_ne (show t + 2 ≠ t + 9 by omega), hs_ne (show t + 3 ≠ t + 9 by omega), hs_ne (show t + 4 ≠ t + 9 by omega), hs_ne (show t + 5 ≠ t + 9 by omega), hs_ne (show t + 6 ≠ t + 9 by omega), hs_ne (show t + 7 ≠ t + 9 by omega), hs_ne (show t + 8 ≠ t + 9 by omega)]
  rw [e 0 (by omega), e 1 (by omega), e 2 (by omega), e 3 (by omega), e 4 (by omega)]
  obtain ⟨a0, a1, a2, a3, a4, a5, a6, a7, a8, a9, a10, a11, a12, a13⟩ := hW
  refine ⟨a0, a1, a2, a3, a4, fun q hq => by rw [e _ (by omega)]; exact a5 q hq, fun q hq => by rw [e _ (by omega)]; exact a6 q hq, fun q hq => by rw [e _ (by omega)]; exact a7 q hq, fun q hq => by rw [e _ (by omega)]; exact a8 q hq, fun q hq => by rw [e _ (by omega)]; exact a9 q hq, fun q hq => by rw [e _ (by omega)]; exact a10 q hq, fun q hq => by rw [e _ (by omega)]; exact a11 q hq, fun q hq => by rw [e _ (by omega)]; exact a12 q hq, fun q hq => ?_⟩
  by_cases z : q = g
  · subst z; rw [hs_same, up_same]
  · rw [hs_ix z, up_ne (by omega)]; exact a13 q hq
theorem TW.day {v : Nat} (hW : TW h t T) : TW (hs h t 4 (nI v)) t (up T 4 v) := by
  unfold TW at hW ⊢
  have e : ∀ j, j ≠ 4 → up T 4 v j = T j := fun j hj => up_ne hj
  rw [hs_ne (show t + 1 ≠ t by omega), hs_ne (show t + 2 ≠ t by omega), hs_ne (show t + 3 ≠ t by omega), hs_ne (show t + 4 ≠ t by omega), hs_ne (show t + 5 ≠ t by omega), hs_ne (show t + 6 ≠ t by omega), hs_ne (show t + 7 ≠ t by omega), hs_ne (show t + 8 ≠ t by omega), hs_ne (show t + 9 ≠ t by omega), hs_ix (show 0 ≠ 4 by decide), hs_ix (show 1 ≠ 4 by decide), hs_ix (show 2 ≠ 4 by decide), hs_ix (show 3 ≠ 4 by decide), hs_same, up_same]
  rw [e 0 (by omega), e 1 (by omega), e 2 (by omega), e 3 (by omega)]
  obtain ⟨a0, a1, a2, a3, a4, a5, a6, a7, a8, a9, a10, a11, a12, a13⟩ := hW
  refine ⟨a0, a1, a2, a3, rfl, fun q hq => by rw [e _ (by omega)]; exact a5 q hq, fun q hq => by rw [e _ (by omega)]; exact a6 q hq, fun q hq => by rw [e _ (by omega)]; exact a7 q hq, fun q hq => by rw [e _ (by omega)]; exact a8 q hq, fun q hq => by rw [e _ (by omega)]; exact a9 q hq, fun q hq => by rw [e _ (by omega)]; exact a10 q hq, fun q hq => by rw [e _ (by omega)]; exact a11 q hq, fun q hq => by rw [e _ (by omega)]; exact a12 q hq, fun q hq => by rw [e _ (by omega)]; exact a13 q hq⟩
/-- the same but for what children are and were told -/
def eqv (T T' : Tn) : Prop := ∀ j, (j < 5 ∨ 20 ≤ j) → T' j = T j
theorem hst_eqv {T' : Tn} (e : eqv T T') (n g : Nat) : hst T' n g = hst T n g := by unfold hst; rw [e _ (by omega), e _ (by omega), e _ (by omega), e _ (by omega)]
theorem wt_eqv {T' : Tn} (e : eqv T T') (n g : Nat) : wt T' n g = wt T n g := by unfold wt; rw [e _ (by omega), hst_eqv e]
theorem gu_eqv {T' : Tn} (e : eqv T T') (n c : Nat) : ∀ k, gu T' n k c = gu T n k c
  | 0 => rfl
  | k + 1 => by unfold gu; rw [wt_eqv e, gu_eqv e n c k]
theorem br_eqv {T' : Tn} (e : eqv T T') (n g : Nat) : br T' n g = br T n g := by
  unfold br
  rw [wt_eqv e, e 1 (by omega), e (50 + g) (by omega)]
  cases wt T n g with
  | none => rfl
  | some c => simp only [gu_eqv e]
theorem LD.eqv {T' : Tn} {n : Nat} (e : eqv T T') (hL : LD h t T n) : LD h t T' n := by
  unfold LD
  rw [e 0 (by omega), e 1 (by omega)]
  exact ⟨fun g hg => by rw [wt_eqv e]; exact hL.1 g hg, fun c hc => by rw [gu_eqv e]; exact hL.2 c hc⟩
theorem LD.cg {h' : Hp} {n : Nat} (hL : LD h t T n) (h1 : h' (t + 10) = h (t + 10)) (h2 : h' (t + 11) = h (t + 11)) : LD h' t T n := by
  unfold LD; rw [h1, h2]; exact hL
theorem okt_vs (hO : OKT T) (h0 : 0 < T 0) : ∀ k, k ≤ T 1 → OKT (vs T k)
  | 0, _ => hO
  | k + 1, hk => by
    have ih := okt_vs hO h0 k (by omega)
    have e : eqv T (vs T k) := fun j hj => vs_out hO.1 h0 hj k
    unfold vs
    split
    · exact okt_vis ih (by rw [e 1 (by omega)]; omega) (by rw [e 0 (by omega)]; exact Nat.mod_lt _ h0)
    · exact ih
def eaT (T : Tn) (i : Nat) : Tn := fun j => if 5 ≤ j ∧ j < 5 + i then T j - T 2 else T j
def siT (T : Tn) (i : Nat) : Tn := fun j => if 44 ≤ j ∧ j < 44 + i then T j - 1 else T j
theorem eaT_out {i j : Nat} (hi : i ≤ 5) (hj : j < 5 ∨ 10 ≤ j) : eaT T i j = T j := if_neg (by omega)
theorem eaT_succ {i : Nat} (hi : i < 5) : eaT T (i + 1) = up (eaT T i) (5 + i) (eaT T i (5 + i) - T 2) := funext fun j => by
  unfold eaT up
  by_cases q : j = 5 + i
  · subst q; rw [if_pos (by omega), if_pos rfl, if_neg (by omega)]
  · rw [if_neg q]
    dsimp only
    by_cases z : 5 ≤ j ∧ j < 5 + i
    · rw [if_pos (by omega), if_pos z]
    · rw [if_neg (by omega), if_neg z]
theorem siT_succ {i : Nat} : siT T (i + 1) = up (siT T i) (44 + i) (siT T i (44 + i) - 1) := funext fun j => by
  unfold siT up
  by_cases q : j = 44 + i
  · subst q; rw [if_pos (by omega), if_pos rfl, if_neg (by omega)]
  · rw [if_neg q]
    dsimp only
    by_cases z : 44 ≤ j ∧ j < 44 + i
    · rw [if_pos (by omega), if_pos z]
    · rw [if_neg (by omega), if_neg z]
theorem eaT_0 : eaT T 0 = T := funext fun j => if_neg (by omega)
theorem siT_0 : siT T 0 = T := funext fun j => if_neg (by omega)
theorem okt_ea (hO : OKT T) : ∀ i, i ≤ T 0 → OKT (eaT T i)
  | 0, _ => by rw [eaT_0]; exact hO
  | i + 1, hi => by
    have o0 := hO.1
    have ih := okt_ea hO i (by omega)
    have f := (ih.2.2.2.2.2.2.1 i (by omega)).1
    rw [eaT_succ (by omega)]
    exact ih.fed (by rw [eaT_out (by omega) (by omega)]; omega) (by omega)
theorem okt_day {v : Nat} (hO : OKT T) (hv : v ≤ 1200) : OKT (up T 4 v) := by
  obtain ⟨o0, o1, o2, o3, o4, o5, o6, o7, o8⟩ := id hO
  have e : ∀ j, j ≠ 4 → up T 4 v j = T j := fun j hj => up_ne hj
  unfold OKT
  rw [e 0 (by omega), e 1 (by omega), e 2 (by omega), e 3 (by omega), up_same]
  refine ⟨o0, o1, o2, o3, hv, o5, fun q hq => ?_, fun g hg => ?_, fun q h1 h2 => ?_⟩
  · rw [e _ (by omega), e _ (by omega), e _ (by omega)]; exact o6 q hq
  · rw [e _ (by omega), e _ (by omega), e _ (by omega), e _ (by omega), e _ (by omega), e _ (by omega)]; exact o7 g hg
  · rw [e _ (by omega), e _ (by omega)]; exact o8 q h1 h2
theorem okt_sor {g v : Nat} (hO : OKT T) (hg : g < T 1) (hv : 1 ≤ v ∧ v ≤ 5) : OKT (up T (20 + g) v) := by
  obtain ⟨o0, o1, o2, o3, o4, o5, o6, o7, o8⟩ := id hO
  have e : ∀ j, (j < 20 ∨ 26 ≤ j) → up T (20 + g) v j = T j := fun j hj => up_ne (by omega)
  unfold OKT
  rw [e 0 (by omega), e 1 (by omega), e 2 (by omega), e 3 (by omega), e 4 (by omega)]
  refine ⟨o0, o1, o2, o3, o4, o5, fun q hq => ?_, fun q hq => ⟨?_, ?_, ?_, ?_, ?_, ?_⟩, fun q h1 h2 => ?_⟩
  · rw [e _ (by omega), e _ (by omega), e _ (by omega)]; exact o6 q hq
  · by_cases z : q = g
    · subst z; rw [up_same]; exact hv
    · rw [up_ne (by omega)]; exact (o7 q hq).1
  · rw [e _ (by omega)]; exact (o7 q hq).2.1
  · rw [e _ (by omega)]; exact (o7 q hq).2.2.1
  · rw [e _ (by omega)]; exact (o7 q hq).2.2.2.1
  · rw [e _ (by omega)]; exact (o7 q hq).2.2.2.2.1
  · rw [e _ (by omega)]; exact (o7 q hq).2.2.2.2.2
  · rw [e _ (by omega), e _ (by omega)]; exact o8 q h1 h2
theorem okt_fir {g v : Nat} (hO : OKT T) (hg : g < T 1) (hv : v < T 0) : OKT (up T (32 + g) v) := by
  obtain ⟨o0, o1, o2, o3, o4, o5, o6, o7, o8⟩ := id hO
  have e : ∀ j, (j < 32 ∨ 38 ≤ j) → up T (32 + g) v j = T j := fun j hj => up_ne (by omega)
  unfold OKT
  rw [e 0 (by omega), e 1 (by omega), e 2 (by omega), e 3 (by omega), e 4 (by omega)]
  refine ⟨o0, o1, o2, o3, o4, o5, fun q hq => ?_, fun q hq => ⟨?_, ?_, ?_, ?_, ?_, ?_⟩, fun q h1 h2 => ?_⟩
  · rw [e _ (by omega), e _ (by omega), e _ (by omega)]; exact o6 q hq
  · rw [e _ (by omega)]; exact (o7 q hq).1
  · rw [e _ (by omega)]; exact (o7 q hq).2.1
  · by_cases z : q = g
    · subst z; rw [up_same]; exact hv
    · rw [up_ne (by omega)]; exact (o7 q hq).2.2.1
  · rw [e _ (by omega)]; exact (o7 q hq).2.2.2.1
  · rw [e _ (by omega)]; exact (o7 q hq).2.2.2.2.1
  · rw [e _ (by omega)]; exact (o7 q hq).2.2.2.2.2
  · rw [e _ (by omega), e _ (by omega)]; exact o8 q h1 h2
theorem okt_ste {g v : Nat} (hO : OKT T) (hg : g < T 1) (hv : v ≤ 4) : OKT (up T (38 + g) v) := by
  obtain ⟨o0, o1, o2, o3, o4, o5, o6, o7, o8⟩ := id hO
  have e : ∀ j, (j < 38 ∨ 44 ≤ j) → up T (38 + g) v j = T j := fun j hj => up_ne (by omega)
  unfold OKT
  rw [e 0 (by omega), e 1 (by omega), e 2 (by omega), e 3 (by omega), e 4 (by omega)]
  refine ⟨o0, o1, o2, o3, o4, o5, fun q hq => ?_, fun q hq => ⟨?_, ?_, ?_, ?_, ?_, ?_⟩, fun q h1 h2 => ?_⟩
  · rw [e _ (by omega), e _ (by omega), e _ (by omega)]; exact o6 q hq
  · rw [e _ (by omega)]; exact (o7 q hq).1
  · rw [e _ (by omega)]; exact (o7 q hq).2.1
  · rw [e _ (by omega)]; exact (o7 q hq).2.2.1
  · by_cases z : q = g
    · subst z; rw [up_same]; exact hv
    · rw [up_ne (by omega)]; exact (o7 q hq).2.2.2.1
  · rw [e _ (by omega)]; exact (o7 q hq).2.2.2.2.1
  · rw [e _ (by omega)]; exact (o7 q hq).2.2.2.2.2
  · rw [e _ (by omega), e _ (by omega)]; exact o8 q h1 h2
theorem okt_ill {g v : Nat} (hO : OKT T) (hg : g < T 1) (hv : v ≤ 60) : OKT (up T (44 + g) v) := by
  obtain ⟨o0, o1, o2, o3, o4, o5, o6, o7, o8⟩ := id hO
  have e : ∀ j, (j < 44 ∨ 50 ≤ j) → up T (44 + g) v j = T j := fun j hj => up_ne (by omega)
  unfold OKT
  rw [e 0 (by omega), e 1 (by omega), e 2 (by omega), e 3 (by omega), e 4 (by omega)]
  refine ⟨o0, o1, o2, o3, o4, o5, fun q hq => ?_, fun q hq => ⟨?_, ?_, ?_, ?_, ?_, ?_⟩, fun q h1 h2 => ?_⟩
  · rw [e _ (by omega), e _ (by omega), e _ (by omega)]; exact o6 q hq
  · rw [e _ (by omega)]; exact (o7 q hq).1
  · rw [e _ (by omega)]; exact (o7 q hq).2.1
  · rw [e _ (by omega)]; exact (o7 q hq).2.2.1
  · rw [e _ (by omega)]; exact (o7 q hq).2.2.2.1
  · by_cases z : q = g
    · subst z; rw [up_same]; exact hv
    · rw [up_ne (by omega)]; exact (o7 q hq).2.2.2.2.1
  · rw [e _ (by omega)]; exact (o7 q hq).2.2.2.2.2
  · rw [e _ (by omega), e _ (by omega)]; exact o8 q h1 h2
theorem okt_foe {g v : Nat} (hO : OKT T) (hg : g < T 1) (hv : v < 64) : OKT (up T (50 + g) v) := by
  obtain ⟨o0, o1, o2, o3, o4, o5, o6, o7, o8⟩ := id hO
  have e : ∀ j, (j < 50 ∨ 56 ≤ j) → up T (50 + g) v j = T j := fun j hj => up_ne (by omega)
  unfold OKT
  rw [e 0 (by omega), e 1 (by omega), e 2 (by omega), e 3 (by omega), e 4 (by omega)]
  refine ⟨o0, o1, o2, o3, o4, o5, fun q hq => ?_, fun q hq => ⟨?_, ?_, ?_, ?_, ?_, ?_⟩, fun q h1 h2 => ?_⟩
  · rw [e _ (by omega), e _ (by omega), e _ (by omega)]; exact o6 q hq
  · rw [e _ (by omega)]; exact (o7 q hq).1
  · rw [e _ (by omega)]; exact (o7 q hq).2.1
  · rw [e _ (by omega)]; exact (o7 q hq).2.2.1
  · rw [e _ (by omega)]; exact (o7 q hq).2.2.2.1
  · rw [e _ (by omega)]; exact (o7 q hq).2.2.2.2.1
  · by_cases z : q = g
    · subst z; rw [up_same]; exact hv
    · rw [up_ne (by omega)]; exact (o7 q hq).2.2.2.2.2
  · rw [e _ (by omega), e _ (by omega)]; exact o8 q h1 h2
theorem siT_out {i j : Nat} (hi : i ≤ 6) (hj : j < 44 ∨ 50 ≤ j) : siT T i j = T j := if_neg (by omega)
theorem okt_si (hO : OKT T) : ∀ i, i ≤ T 1 → OKT (siT T i)
  | 0, _ => by rw [siT_0]; exact hO
  | i + 1, hi => by
    have o1 := hO.2.1
    have ih := okt_si hO i (by omega)
    have hg : i < siT T i 1 := by rw [siT_out (by omega) (by omega)]; omega
    have f := (ih.2.2.2.2.2.2.2.1 i hg).2.2.2.2.1
    rw [siT_succ]
    exact okt_ill ih hg (by omega)
theorem pass_eq (h0 : 0 < T 0) (hO : OKT T) : passT T = siT (up (eaT (vs T (T 1)) (T 0)) 4 (T 4 + 1)) (T 1) := funext fun j => by
  have o0 := hO.1
  have o1 := hO.2.1
  have e2 : vs T (T 1) 2 = T 2 := vs_out o0 h0 (by omega) _
  unfold passT siT up eaT
  rw [e2]
  by_cases q : j = 4
  · subst q; rw [if_pos rfl, if_neg (by omega), if_pos rfl]
  · rw [if_neg q, if_neg q]
    by_cases z : 5 ≤ j ∧ j < 5 + T 0
    · rw [if_pos z, if_neg (by omega), if_pos z]
    · rw [if_neg z, if_neg z]
      by_cases y : 44 ≤ j ∧ j < 44 + T 1
      · rw [if_pos y, if_pos y, vs_out o0 h0 (by omega)]
      · rw [if_neg y, if_neg y]
theorem okt_pass (hO : OKT T) (h0 : 0 < T 1) (hd : T 4 < 1200) : OKT (passT T) := by
  have p0 := (hO.2.2.2.2.2.1 h0).1
  rw [pass_eq p0 hO]
  have h1 := okt_vs hO p0 (T 1) (Nat.le_refl _)
  have e0 : vs T (T 1) 0 = T 0 := vs_out hO.1 p0 (by omega) _
  have e1 : vs T (T 1) 1 = T 1 := vs_out hO.1 p0 (by omega) _
  have h2 := okt_ea h1 (T 0) (by rw [e0]; omega)
  have h3 := okt_day (v := T 4 + 1) h2 (by omega)
  exact okt_si h3 (T 1) (by rw [up_ne (by decide), eaT_out hO.1 (by omega), e1]; omega)
end TOWN5
