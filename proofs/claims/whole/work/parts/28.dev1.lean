/-! the class: what it holds -/
/-- a row: lane, size, items -/
abbrev Rw : Type := Nat × Nat × (Nat → Int32)
def dR (h : Hp) (r : Nat) : Option Rw → Prop
  | none => h 12 r = kM1
  | some x => h 12 r = nI x.2.1 ∧ h 11 r = nI x.1 ∧ ∀ i, i < x.2.1 → h (3 + r) i = x.2.2 i
def DR (h : Hp) (R : Nat → Option Rw) : Prop := ∀ r, r < 8 → dR h r (R r)
def DA (h : Hp) (P : List Tn) : Prop := ∃ o, o < 24 ∧ h 53 1 = nI o ∧ h 53 2 = nI P.length ∧ P.length ≤ 24 ∧ ∀ j T, P[j]? = some T → PG h (55 + (o + j) % 24) T
def dG (h : Hp) (k : Nat) : Option Tn → Prop
  | none => h 82 k = nI 0
  | some T => h 82 k = nI 1 ∧ PG h (80 + k) T
def DG (h : Hp) (I : Nat → Option Tn) : Prop := ∀ k, k < 2 → dG h k (I k)
def DB (h : Hp) (B : List Nat) : Prop := h 13 1 = nI B.length ∧ ∀ i b, B[i]? = some b → h 14 i = nI b
def DK (h : Hp) (K : List Nat) : Prop := h 83 1 = nI K.length ∧ ∀ i b, K[i]? = some b → h 84 i = nI b
/-- all that is held: the town, the past, images, rows, tape, fault, finding, trace -/
abbrev Sg : Type := Tn × List Tn × (Nat → Option Tn) × (Nat → Option Rw) × List Nat × Nat × Nat × List Nat
abbrev gT (σ : Sg) : Tn := σ.1
abbrev gP (σ : Sg) : List Tn := σ.2.1
abbrev gIm (σ : Sg) : Nat → Option Tn := σ.2.2.1
abbrev gR (σ : Sg) : Nat → Option Rw := σ.2.2.2.1
abbrev gB (σ : Sg) : List Nat := σ.2.2.2.2.1
abbrev gF (σ : Sg) : Nat := σ.2.2.2.2.2.1
abbrev gS (σ : Sg) : Nat := σ.2.2.2.2.2.2.1
abbrev gK (σ : Sg) : List Nat := σ.2.2.2.2.2.2.2
def DI (h : Hp) (σ : Sg) : Prop := TW h 27 (gT σ) ∧ DA h (gP σ) ∧ DG h (gIm σ) ∧ DR h (gR σ) ∧ DB h (gB σ) ∧ h 0 11 = nI (gF σ) ∧ h 0 12 = nI (gS σ) ∧ DK h (gK σ)
/-- a town that may be held -/
def OKP (T : Tn) : Prop := OKT T ∧ T 4 ≤ 999
def OKS (σ : Sg) : Prop := OKP (gT σ) ∧ (∀ (j : Nat) (T : Tn), (gP σ)[j]? = some T → OKP T ∧ 0 < T 1) ∧ (∀ k T, gIm σ k = some T → OKP T ∧ 0 < T 1) ∧ (∀ r x, gR σ r = some x → x.1 < 3 ∧ x.2.1 ≤ 40) ∧ ((gB σ).length ≤ 100 ∧ ∀ (i b : Nat), (gB σ)[i]? = some b → b < 256) ∧ gF σ ≤ 3 ∧ gS σ ≤ 5 ∧ (gK σ).length ≤ 16
/-- only what is worked on has changed -/
def SC (h h' : Hp) : Prop := ∀ a, a < 37 ∨ (52 < a ∧ a < 85) ∨ (88 < a ∧ a < 100) → h' a = h a
theorem SC.rf (h : Hp) : SC h h := fun _ _ => rfl
theorem SC.tr {h h1 h2 : Hp} (a : SC h h1) (b : SC h1 h2) : SC h h2 := fun q e => (b q e).trans (a q e)
theorem dR.cg {h h' : Hp} {r : Nat} {x : Option Rw} (hr : r < 8) (e : ∀ a, 3 ≤ a → a ≤ 12 → h' a = h a) (H : dR h r x) : dR h' r x := by
  cases x with
  | none => show h' 12 r = kM1; rw [e 12 (by omega) (by omega)]; exact H
  | some x =>
    show h' 12 r = _ ∧ h' 11 r = _ ∧ ∀ i, i < x.2.1 → h' (3 + r) i = _
    rw [e 12 (by omega) (by omega), e 11 (by omega) (by omega), e (3 + r) (by omega) (by omega)]
    exact H
theorem DR.cg {h h' : Hp} {R : Nat → Option Rw} (e : ∀ a, 3 ≤ a → a ≤ 12 → h' a = h a) (H : DR h R) : DR h' R := fun r hr => (H r hr).cg hr e
theorem DA.cg {h h' : Hp} {P : List Tn} (e : ∀ a, 53 ≤ a → a ≤ 78 → h' a = h a) (H : DA h P) : DA h' P := by
  obtain ⟨o, h1, h2, h3, h4, h5⟩ := H
  refine ⟨o, h1, by rw [e 53 (by omega) (by omega)]; exact h2, by rw [e 53 (by omega) (by omega)]; exact h3, h4, fun j T hj => (h5 j T hj).cg (e _ (by omega) (by omega))⟩
theorem DG.cg {h h' : Hp} {I : Nat → Option Tn} (e : ∀ a, 80 ≤ a → a ≤ 82 → h' a = h a) (H : DG h I) : DG h' I := fun k hk => by
  have := H k hk
  cases hI : I k with
  | none => rw [hI] at this; show h' 82 k = _; rw [e 82 (by omega) (by omega)]; exact this
  | some T => rw [hI] at this; exact ⟨by rw [e 82 (by omega) (by omega)]; exact this.1, this.2.cg (e _ (by omega) (by omega))⟩
theorem DB.cg {h h' : Hp} {B : List Nat} (e1 : h' 13 1 = h 13 1) (e : h' 14 = h 14) (H : DB h B) : DB h' B := by unfold DB; rw [e1, e]; exact H
theorem DK.cg {h h' : Hp} {K : List Nat} (e1 : h' 83 = h 83) (e : h' 84 = h 84) (H : DK h K) : DK h' K := by unfold DK; rw [e1, e]; exact H
theorem TW.cg2 {h h' : Hp} {t : Nat} {T : Tn} (hW : TW h t T) (e : ∀ a, t ≤ a → a ≤ t + 9 → h' a = h a) : TW h' t T := by
  unfold TW at hW ⊢
  rw [e t (by omega) (by omega), e (t + 1) (by omega) (by omega), e (t + 2) (by omega) (by omega), e (t + 3) (by omega) (by omega), e (t + 4) (by omega) (by omega), e (t + 5) (by omega) (by omega), e (t + 6) (by omega) (by omega), e (t + 7) (by omega) (by omega), e (t + 8) (by omega) (by omega), e (t + 9) (by omega) (by omega)]
  exact hW
theorem DI.sc {h h' : Hp} {σ : Sg} (e : SC h h') (H : DI h σ) : DI h' σ := by
  obtain ⟨a, b, c, d, f, g1, g2, k⟩ := H
  exact ⟨a.cg2 (fun q q1 q2 => e q (by omega)), b.cg (fun q _ _ => e q (by omega)), c.cg (fun q _ _ => e q (by omega)), d.cg (fun q _ _ => e q (by omega)), f.cg (by rw [e 13 (by omega)]) (e 14 (by omega)), by rw [e 0 (by omega)]; exact g1, by rw [e 0 (by omega)]; exact g2, k.cg (e 83 (by omega)) (e 84 (by omega))⟩
section DEV1
variable {G : Gt} {d : Nat} {h : Hp} {T : Tn}
theorem sp_openTrial {K : Hp → Prop} (hW : TW h 27 T) (hO : OKT T) (k : ∀ h', TW h' 39 T → (∀ a, a < 39 ∨ 51 < a → h' a = h a) → K h') : Call G (d + 1) mX6_openTrial [.ref 0] h (pV K) := by
  refine Call.of (M := mX6_openTrial) (n := 0) (by decide +kernel) rfl ?_
  show WP _ _ _ _ 0 [some (.ref 0)] [] _
  refine wp_aload_n (pc := 0) (i := 0) dX6_openTrial_0 rfl rfl ?_
  refine wp_gfr (pc := 1) fk_X6_26 dX6_openTrial_1 rfl rfl (by decide) ?_
  refine wp_aload_n (pc := 4) (i := 0) dX6_openTrial_4 rfl rfl ?_
  refine wp_gfr (pc := 5) fk_X6_33 dX6_openTrial_5 rfl rfl (by decide) ?_
  refine wp_cV1v (pc := 8) lk_X6_133 dX6_openTrial_8 rfl rfl rfl (sp_save isT_27 rfl (by decide) (fun h1 s1 => ?_))
  refine wp_aload_n (pc := 11) (i := 0) dX6_openTrial_11 rfl rfl ?_
  refine wp_gfr (pc := 12) fk_X6_30 dX6_openTrial_12 rfl rfl (by decide) ?_
  refine wp_aload_n (pc := 15) (i := 0) dX6_openTrial_15 rfl rfl ?_
  refine wp_gfr (pc := 16) fk_X6_33 dX6_openTrial_16 rfl rfl (by decide) ?_
  refine wp_cV1v (pc := 19) lk_X6_137 dX6_openTrial_19 rfl rfl rfl (sp_load isT_39 rfl (by decide) (fun h2 s2 => ?_))
  refine wp_vret (pc := 22) dX6_openTrial_22 rfl ?_
  rotate_left
  refine k h2 (s2.tw (s1.pg hW hO) hO) (fun a ha => ?_)
  rw [s2.1 a (by omega), s1.1 a (by omega)]
theorem sp_noTown {K : Int32 → Hp → Prop} (hW : TW h 27 T) (hO : OKT T) (k : K (bI (decide (T 1 = 0))) h) : Call G d mX6_noTown [.ref 0] h (pI K) := by
  obtain ⟨o0, o1, o2, o3, o4, o5, o6, o7, o8⟩ := id hO
  have e3 := hW.2.2.2.1
  refine Call.of (M := mX6_noTown) (n := 0) (by decide +kernel) rfl ?_
  show WP _ _ _ _ 0 [some (.ref 0)] [] _
  refine wp_aload_n (pc := 0) (i := 0) dX6_noTown_0 rfl rfl ?_
  refine wp_gfr (pc := 1) fk_X6_26 dX6_noTown_1 rfl rfl (by decide) ?_
  refine wp_gfv (pc := 4) fk_X6_143 dX6_noTown_4 rfl rfl (by first | with_reducible assumption | with_reducible exact hs_same _ _ _ _ | rfl) ?_
  first | (with_reducible show WP _ _ _ _ _ _ (Value.int (bI _) :: _) _; refine wp_if_neB (pc := 7) (tgt := 14) dX6_noTown_7 (by decide) (fun c7 => ?_) (fun c7 => ?_)) | (with_reducible show WP _ _ _ _ _ _ (Value.int (nI _) :: _) _; refine wp_if_neN (pc := 7) (tgt := 14) dX6_noTown_7 (by decide) (by omega) (fun c7 => ?_) (fun c7 => ?_)) | refine wp_if_ne (pc := 7) (tgt := 14) dX6_noTown_7 (by decide) (fun c7 => ?_) (fun c7 => ?_)
  refine wp_iconst (pc := 14) (v := nI 0) dX6_noTown_14 rfl ?_
  refine wp_zret (pc := 15) dX6_noTown_15 rfl (by first | exact Or.inl rfl | exact Or.inr rfl | assumption | exact bI_01 _) ?_
  rotate_left
  refine wp_iconst (pc := 10) (v := nI 1) dX6_noTown_10 rfl ?_
  refine wp_goto (pc := 11) (tgt := 15) dX6_noTown_11 (by decide) ?_
  refine wp_zret (pc := 15) dX6_noTown_15 rfl (by first | exact Or.inl rfl | exact Or.inr rfl | assumption | exact bI_01 _) ?_
  rotate_left
  · rw [decide_eq_false c7] at k; exact k
  · rw [decide_eq_true c7] at k; exact k
theorem sp_found {n : Nat} {K : Int32 → Hp → Prop} (k : K (kFOUND - nI n) (hs h 0 12 (nI n))) : Call G d mX6_found [.ref 0, .int (nI n)] h (pI K) := by
  refine Call.of (M := mX6_found) (n := 0) (by decide +kernel) rfl ?_
  show WP _ _ _ _ 0 [some (.ref 0), some (.int (nI n))] [] _
  refine wp_aload_n (pc := 0) (i := 0) dX6_found_0 rfl rfl ?_
  refine wp_iload_n (pc := 1) (i := 1) dX6_found_1 rfl rfl ?_
  refine wp_pf (pc := 2) fp_X6_87 dX6_found_2 rfl rfl rfl rfl ?_
  refine wp_ldcw (pc := 5) kn_X6_320 dX6_found_5 ?_
  refine wp_iload_n (pc := 8) (i := 1) dX6_found_8 rfl rfl ?_
  first | (with_reducible show WP _ _ _ _ _ _ (Value.int (nI _) :: Value.int (nI _) :: _) _; refine wp_isubN (pc := 9) dX6_found_9 (by omega) ?_) | refine wp_isub (pc := 9) dX6_found_9 ?_
  refine wp_iret (pc := 10) dX6_found_10 rfl ?_
  rotate_left
  exact k
theorem sp_forget {K : Hp → Prop} (k : K (hs h 53 2 (nI 0))) : Call G d mX0_forget [.ref 53] h (pV K) := by
  refine Call.of (M := mX0_forget) (n := 0) (by decide +kernel) rfl ?_
  show WP _ _ _ _ 0 [some (.ref 53)] [] _
  refine wp_aload_n (pc := 0) (i := 0) dX0_forget_0 rfl rfl ?_
  refine wp_iconst (pc := 1) (v := nI 0) dX0_forget_1 rfl ?_
  refine wp_pf (pc := 2) fp_X0_18 dX0_forget_2 rfl rfl rfl rfl ?_
  refine wp_vret (pc := 5) dX0_forget_5 rfl ?_
  rotate_left
  exact k
theorem shp_act {j : Nat} (hj : j < 24) : shp[55 + j]? = some (1, 56, []) := by
  have : ∀ j, j < 24 → shp[55 + j]? = some (1, 56, []) := by decide +kernel
  exact this j hj
/-- what is kept then -/
def pastOf (P : List Tn) (T : Tn) : List Tn := if P.length < 24 then P ++ [T] else P.drop 1 ++ [T]
theorem sp_keep {P : List Tn} {K : Hp → Prop} (hW : TW h 27 T) (hO : OKT T) (hA : DA h P) (k : ∀ h', DA h' (pastOf P T) → (∀ a, a < 53 ∨ 78 < a → h' a = h a) → K h') : Call G (d + 1) mX0_keep [.ref 53, .ref 27] h (pV K) := by
  obtain ⟨o, ho, a1, a2, a3, a4⟩ := hA
  have hm : (o + P.length) % 24 < 24 := Nat.mod_lt _ (by decide)
  have hsr := shp_act hm
  refine Call.of (M := mX0_keep) (n := 0) (by decide +kernel) rfl ?_
  show WP _ _ _ _ 0 [some (.ref 53), some (.ref 27)] [] _
  refine wp_aload_n (pc := 0) (i := 1) dX0_keep_0 rfl rfl ?_
  refine wp_aload_n (pc := 1) (i := 0) dX0_keep_1 rfl rfl ?_
  refine wp_gfr (pc := 2) fk_X0_13 dX0_keep_2 rfl rfl (by decide) ?_
  refine wp_aload_n (pc := 5) (i := 0) dX0_keep_5 rfl rfl ?_
  refine wp_gfv (pc := 6) fk_X0_22 dX0_keep_6 rfl rfl (by first | with_reducible assumption | with_reducible exact hs_same _ _ _ _ | rfl) ?_
  refine wp_aload_n (pc := 9) (i := 0) dX0_keep_9 rfl rfl ?_
  refine wp_gfv (pc := 10) fk_X0_18 dX0_keep_10 rfl rfl (by first | with_reducible assumption | with_reducible exact hs_same _ _ _ _ | rfl) ?_
  first | (with_reducible show WP _ _ _ _ _ _ (Value.int (nI _) :: Value.int (nI _) :: _) _; refine wp_iaddN (pc := 13) dX0_keep_13 ?_) | refine wp_iadd (pc := 13) dX0_keep_13 ?_
  refine wp_bipush (pc := 14) (v := nI 24) dX0_keep_14 rfl ?_
  first | (with_reducible show WP _ _ _ _ _ _ (Value.int (nI _) :: Value.int (nI _) :: _) _; refine wp_iremN (pc := 16) dX0_keep_16 (by omega) (by omega) (by omega) ?_) | refine wp_irem (pc := 16) dX0_keep_16 (by first | assumption | decide) ?_
  refine wp_aaldN (pc := 17) dX0_keep_17 rfl (by omega) (by decide) ?_
  refine wp_cV1v (pc := 18) lk_X0_25 dX0_keep_18 rfl rfl rfl ?_
  rotate_left
  refine sp_save isT_27 hsr (by omega) (fun h1 s1 => ?_)
  have b1 : h1 53 1 = nI o := by rw [s1.1 53 (by omega)]; exact a1
  have b2 : h1 53 2 = nI P.length := by rw [s1.1 53 (by omega)]; exact a2
  have hpg := s1.pg hW hO
  refine wp_aload_n (pc := 21) (i := 0) dX0_keep_21 rfl rfl ?_
  refine wp_gfv (pc := 22) fk_X0_18 dX0_keep_22 rfl rfl (by first | with_reducible assumption | with_reducible exact hs_same _ _ _ _ | rfl) ?_
  refine wp_bipush (pc := 25) (v := nI 24) dX0_keep_25 rfl ?_
  first | (with_reducible show WP _ _ _ _ _ _ (Value.int (nI _) :: Value.int (nI _) :: _) _; refine wp_icmp_geN (pc := 27) (tgt := 43) dX0_keep_27 (by decide) (by omega) (by omega) (fun c27 => ?_) (fun c27 => ?_)) | refine wp_icmp_ge (pc := 27) (tgt := 43) dX0_keep_27 (by decide) (fun c27 => ?_) (fun c27 => ?_)
  refine wp_aload_n (pc := 43) (i := 0) dX0_keep_43 rfl rfl ?_
  refine wp_aload_n (pc := 44) (i := 0) dX0_keep_44 rfl rfl ?_
  refine wp_gfv (pc := 45) fk_X0_22 dX0_keep_45 rfl rfl (by first | with_reducible assumption | with_reducible exact hs_same _ _ _ _ | rfl) ?_
  refine wp_iconst (pc := 48) (v := nI 1) dX0_keep_48 rfl ?_
  first | (with_reducible show WP _ _ _ _ _ _ (Value.int (nI _) :: Value.int (nI _) :: _) _; refine wp_iaddN (pc := 49) dX0_keep_49 ?_) | refine wp_iadd (pc := 49) dX0_keep_49 ?_
  refine wp_bipush (pc := 50) (v := nI 24) dX0_keep_50 rfl ?_
  first | (with_reducible show WP _ _ _ _ _ _ (Value.int (nI _) :: Value.int (nI _) :: _) _; refine wp_iremN (pc := 52) dX0_keep_52 (by omega) (by omega) (by omega) ?_) | refine wp_irem (pc := 52) dX0_keep_52 (by first | assumption | decide) ?_
  refine wp_pf (pc := 53) fp_X0_22 dX0_keep_53 rfl rfl rfl rfl ?_
  refine wp_vret (pc := 56) dX0_keep_56 rfl ?_
  rotate_left
  refine wp_aload_n (pc := 30) (i := 0) dX0_keep_30 rfl rfl ?_
  refine wp_dup (pc := 31) dX0_keep_31 rfl ?_
  refine wp_gfv (pc := 32) fk_X0_18 dX0_keep_32 rfl rfl (by first | with_reducible assumption | with_reducible exact hs_same _ _ _ _ | rfl) ?_
  refine wp_iconst (pc := 35) (v := nI 1) dX0_keep_35 rfl ?_
  first | (with_reducible show WP _ _ _ _ _ _ (Value.int (nI _) :: Value.int (nI _) :: _) _; refine wp_iaddN (pc := 36) dX0_keep_36 ?_) | refine wp_iadd (pc := 36) dX0_keep_36 ?_
  refine wp_pf (pc := 37) fp_X0_18 dX0_keep_37 rfl rfl rfl rfl ?_
  refine wp_goto (pc := 40) (tgt := 56) dX0_keep_40 (by decide) ?_
  refine wp_vret (pc := 56) dX0_keep_56 rfl ?_
  rotate_left
  · -- full: the oldest is forgotten
    refine k _ ⟨(o + 1) % 24, Nat.mod_lt _ (by decide), by rw [hs_same], ?_, ?_, ?_⟩ (fun a ha => ?_)
    · rw [hs_ix (by decide), b2, pastOf, if_neg (by omega)]
      simp only [List.length_append, List.length_drop, List.length_cons, List.length_nil]
      congr 1; omega
    · rw [pastOf, if_neg (by omega)]
      simp only [List.length_append, List.length_drop, List.length_cons, List.length_nil]; omega
    · intro j Tj hj
      rw [pastOf, if_neg (by omega)] at hj
      have e1 : PG h1 (55 + ((o + 1) % 24 + j) % 24) Tj := by
        by_cases q : j < 23
        · rw [List.getElem?_append_left (by rw [List.length_drop]; omega), List.getElem?_drop] at hj
          have := a4 (1 + j) Tj hj
          rw [show ((o + 1) % 24 + j) % 24 = (o + (1 + j)) % 24 by omega]
          exact this.cg (s1.1 _ (by omega))
        · rw [List.getElem?_append_right (by rw [List.length_drop]; omega), List.length_drop] at hj
          have : j - (P.length - 1) < 1 := (List.getElem?_eq_some_iff.mp hj).1
          rw [show j - (P.length - 1) = 0 by omega] at hj
          cases hj
          rw [show ((o + 1) % 24 + j) % 24 = (o + P.length) % 24 by omega]
          exact hpg
      exact e1.cg (hs_ne (by omega))
    · rw [hs_ne (by omega)]; exact s1.1 a (by omega)
  · refine k _ ⟨o, ho, ?_, ?_, ?_, ?_⟩ (fun a ha => ?_)
    · rw [hs_ix (by decide)]; exact b1
    · rw [hs_same, pastOf, if_pos (by omega)]; simp
    · rw [pastOf, if_pos (by omega)]; simp; omega
    · intro j Tj hj
      rw [pastOf, if_pos (by omega)] at hj
      have e1 : PG h1 (55 + (o + j) % 24) Tj := by
        by_cases q : j < P.length
        · rw [List.getElem?_append_left q] at hj
          exact (a4 j Tj hj).cg (s1.1 _ (by omega))
        · rw [List.getElem?_append_right (by omega)] at hj
          have : j - P.length < 1 := (List.getElem?_eq_some_iff.mp hj).1
          rw [show j - P.length = 0 by omega] at hj
          cases hj
          rw [show j = P.length by omega]
          exact hpg
      exact e1.cg (hs_ne (by omega))
    · rw [hs_ne (by omega)]; exact s1.1 a (by omega)
theorem sp_takeBack0 {K : Int32 → Hp → Prop} (hA : DA h []) (k : K (nI 0) h) : Call G d mX0_takeBack [.ref 53, .ref 27] h (pI K) := by
  obtain ⟨o, ho, a1, a2, a3, a4⟩ := hA
  refine Call.of (M := mX0_takeBack) (n := 0) (by decide +kernel) rfl ?_
  show WP _ _ _ _ 0 [some (.ref 53), some (.ref 27)] [] _
  have a2 : h 53 2 = nI 0 := a2
  refine wp_aload_n (pc := 0) (i := 0) dX0_takeBack_0 rfl rfl ?_
  refine wp_gfv (pc := 1) fk_X0_18 dX0_takeBack_1 rfl rfl (by first | with_reducible assumption | with_reducible exact hs_same _ _ _ _ | rfl) ?_
  first | (with_reducible show WP _ _ _ _ _ _ (Value.int (bI _) :: _) _; refine wp_if_neB (pc := 4) (tgt := 9) dX0_takeBack_4 (by decide) (fun c4 => ?_) (fun c4 => ?_)) | (with_reducible show WP _ _ _ _ _ _ (Value.int (nI _) :: _) _; refine wp_if_neN (pc := 4) (tgt := 9) dX0_takeBack_4 (by decide) (by omega) (fun c4 => ?_) (fun c4 => ?_)) | refine wp_if_ne (pc := 4) (tgt := 9) dX0_takeBack_4 (by decide) (fun c4 => ?_) (fun c4 => ?_)
  rotate_left
  refine wp_iconst (pc := 7) (v := nI 0) dX0_takeBack_7 rfl ?_
  refine wp_zret (pc := 8) dX0_takeBack_8 rfl (by first | exact Or.inl rfl | exact Or.inr rfl | assumption | exact bI_01 _) ?_
  rotate_left
  · exact absurd rfl c4
  · exact k
theorem sp_takeBack {P : List Tn} {K : Int32 → Hp → Prop} (hA : DA h (P ++ [T])) (hO : OKT T) (k : ∀ h', DA h' P → TW h' 27 T → (∀ a, a < 27 ∨ (36 < a ∧ a ≠ 53) → h' a = h a) → K (nI 1) h') : Call G (d + 1) mX0_takeBack [.ref 53, .ref 27] h (pI K) := by
  obtain ⟨o, ho, a1, a2, a3, a4⟩ := hA
  have hl : (P ++ [T]).length = P.length + 1 := by simp
  rw [hl] at a2 a3
  have hm : (o + P.length) % 24 < 24 := Nat.mod_lt _ (by decide)
  have hsr := shp_act hm
  have z1 : hs h 53 2 (nI P.length) 53 1 = nI o := by rw [hs_ix (by decide)]; exact a1
  refine Call.of (M := mX0_takeBack) (n := 0) (by decide +kernel) rfl ?_
  show WP _ _ _ _ 0 [some (.ref 53), some (.ref 27)] [] _
  refine wp_aload_n (pc := 0) (i := 0) dX0_takeBack_0 rfl rfl ?_
  refine wp_gfv (pc := 1) fk_X0_18 dX0_takeBack_1 rfl rfl (by first | with_reducible assumption | with_reducible exact hs_same _ _ _ _ | rfl) ?_
  first | (with_reducible show WP _ _ _ _ _ _ (Value.int (bI _) :: _) _; refine wp_if_neB (pc := 4) (tgt := 9) dX0_takeBack_4 (by decide) (fun c4 => ?_) (fun c4 => ?_)) | (with_reducible show WP _ _ _ _ _ _ (Value.int (nI _) :: _) _; refine wp_if_neN (pc := 4) (tgt := 9) dX0_takeBack_4 (by decide) (by omega) (fun c4 => ?_) (fun c4 => ?_)) | refine wp_if_ne (pc := 4) (tgt := 9) dX0_takeBack_4 (by decide) (fun c4 => ?_) (fun c4 => ?_)
  refine wp_aload_n (pc := 9) (i := 0) dX0_takeBack_9 rfl rfl ?_
  refine wp_dup (pc := 10) dX0_takeBack_10 rfl ?_
  refine wp_gfv (pc := 11) fk_X0_18 dX0_takeBack_11 rfl rfl (by first | with_reducible assumption | with_reducible exact hs_same _ _ _ _ | rfl) ?_
  refine wp_iconst (pc := 14) (v := nI 1) dX0_takeBack_14 rfl ?_
  first | (with_reducible show WP _ _ _ _ _ _ (Value.int (nI _) :: Value.int (nI _) :: _) _; refine wp_isubN (pc := 15) dX0_takeBack_15 (by omega) ?_) | refine wp_isub (pc := 15) dX0_takeBack_15 ?_
  refine wp_pf (pc := 16) fp_X0_18 dX0_takeBack_16 rfl rfl rfl rfl ?_
  rotate_left
  refine wp_iconst (pc := 7) (v := nI 0) dX0_takeBack_7 rfl ?_
  refine wp_zret (pc := 8) dX0_takeBack_8 rfl (by first | exact Or.inl rfl | exact Or.inr rfl | assumption | exact bI_01 _) ?_
  rotate_left
  · rw [show P.length + 1 - 1 = P.length by omega]
    have hpg : PG h (55 + (o + P.length) % 24) T := a4 P.length T (by simp)
    refine wp_aload_n (pc := 19) (i := 1) dX0_takeBack_19 rfl rfl ?_
    refine wp_aload_n (pc := 20) (i := 0) dX0_takeBack_20 rfl rfl ?_
    refine wp_gfr (pc := 21) fk_X0_13 dX0_takeBack_21 rfl rfl (by decide) ?_
    refine wp_aload_n (pc := 24) (i := 0) dX0_takeBack_24 rfl rfl ?_
    refine wp_gfv (pc := 25) fk_X0_22 dX0_takeBack_25 rfl rfl (by first | with_reducible assumption | with_reducible exact hs_same _ _ _ _ | rfl) ?_
    refine wp_aload_n (pc := 28) (i := 0) dX0_takeBack_28 rfl rfl ?_
    refine wp_gfv (pc := 29) fk_X0_18 dX0_takeBack_29 rfl rfl (by first | with_reducible assumption | with_reducible exact hs_same _ _ _ _ | rfl) ?_
    first | (with_reducible show WP _ _ _ _ _ _ (Value.int (nI _) :: Value.int (nI _) :: _) _; refine wp_iaddN (pc := 32) dX0_takeBack_32 ?_) | refine wp_iadd (pc := 32) dX0_takeBack_32 ?_
    refine wp_bipush (pc := 33) (v := nI 24) dX0_takeBack_33 rfl ?_
    first | (with_reducible show WP _ _ _ _ _ _ (Value.int (nI _) :: Value.int (nI _) :: _) _; refine wp_iremN (pc := 35) dX0_takeBack_35 (by omega) (by omega) (by omega) ?_) | refine wp_irem (pc := 35) dX0_takeBack_35 (by first | assumption | decide) ?_
    refine wp_aaldN (pc := 36) dX0_takeBack_36 rfl (by omega) (by decide) ?_
    refine wp_cV1v (pc := 37) lk_X0_29 dX0_takeBack_37 rfl rfl rfl ?_
    rotate_left
    refine sp_load isT_27 hsr (by omega) (fun h1 s1 => ?_)
    refine wp_iconst (pc := 40) (v := nI 1) dX0_takeBack_40 rfl ?_
    refine wp_zret (pc := 41) dX0_takeBack_41 rfl (by first | exact Or.inl rfl | exact Or.inr rfl | assumption | exact bI_01 _) ?_
    rotate_left
    refine k _ ?_ (s1.tw (hpg.cg (hs_ne (by omega))) hO) (fun a ha => ?_)
    · refine ⟨o, ho, ?_, ?_, by omega, fun j Tj hj => ?_⟩
      · rw [s1.1 53 (by omega)]; exact z1
      · rw [s1.1 53 (by omega), hs_same]
      · have hj2 : j < P.length := (List.getElem?_eq_some_iff.mp hj).1
        have := a4 j Tj (by rw [List.getElem?_append_left hj2]; exact hj)
        exact this.cg (by rw [s1.1 _ (by omega), hs_ne (by omega)])
    · rw [s1.1 a (by omega), hs_ne (by omega)]
  · exact absurd c4 (by omega)
end DEV1
