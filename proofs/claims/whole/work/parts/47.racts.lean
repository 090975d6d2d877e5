section RACTS
variable {G : Gt} {d : Nat} {h : Hp} {σ : Sg} {T : Tn}
/-- what holds while no town stands -/
def OKN (σ : Sg) : Prop := gT σ 1 = 0 → gT σ 0 = 0 ∧ gP σ = [] ∧ ∀ k, gIm σ k = none
/-- the town's and the acts' places alone have changed -/
def FA (h h' : Hp) : Prop := (∀ a, a ≠ 89 → a ≠ 90 → h' a = h a) ∧ (∀ q, q ≠ 2 → h' 89 q = h 89 q) ∧ (∀ q, 1400 ≤ q → q < 1512 → h' 90 q = h 90 q)
theorem FA.ds {h' : Hp} (x : FA h h') : DS h h' := fun a ha => x.1 a (by omega) (by omega)
theorem FA.rf : FA h h := ⟨fun _ _ _ => rfl, fun _ _ => rfl, fun _ _ _ => rfl⟩
theorem FA.tr {h1 h2 : Hp} (x : FA h h1) (y : FA h1 h2) : FA h h2 := ⟨fun a a1 a2 => (y.1 a a1 a2).trans (x.1 a a1 a2), fun q e => (y.2.1 q e).trans (x.2.1 q e), fun q e f => (y.2.2 q e f).trans (x.2.2 q e f)⟩
theorem FA.row {k : Nat} {v : Int32} (hk : k < 1400) : FA h (hs h 90 k v) := ⟨fun a _ a2 => hs_ne a2, fun q _ => by rw [hs_ne (by decide)], fun q _ _ => hs_ix (by omega)⟩
theorem FA.fb {h' : Hp} {b : Nat} (x : FB h h' b) (hb : b + 56 ≤ 1400) : FA h h' := ⟨fun a _ a2 => x.1 a a2, fun q _ => by rw [x.1 89 (by decide)], fun q _ _ => x.2 q (by omega)⟩
theorem RI.acts {h' : Hp} {T' : Tn} {P : List Tn} (H : RI h σ) (hW : RW h' 0 T') (hA : RA h' P) (h1 : (0 < T' 1 ↔ 0 < gT σ 1)) (e : FA h h') : RI h' (upTP σ T' P) := by
  obtain ⟨a, a2, b, c, f, g, g1, g2, k⟩ := H
  have n : ∀ q, 90 < q → h' q = h q := fun q hq => e.1 q (by omega) (by omega)
  refine ⟨hW, ?_, hA, c.cg (n 91 (by decide)) e.2.2, f.cg (n 92 (by decide)) (n 93 (by decide)) (n 94 (by decide)), g.cg (e.2.1 8 (by decide)) (n 95 (by decide)), by rw [e.2.1 9 (by decide)]; exact g1, by rw [e.2.1 10 (by decide)]; exact g2, k.cg (e.2.1 12 (by decide)) (n 96 (by decide))⟩
  rw [e.2.1 1 (by decide), a2]
  show _ = nI (if 0 < T' 1 then 1 else 0)
  by_cases z : 0 < gT σ 1
  · rw [if_pos z, if_pos (h1.mpr z)]
  · rw [if_neg z, if_neg (fun w => z (h1.mp w))]
theorem ra_put {h' : Hp} {P : List Tn} {b : Nat} (hA : ∀ j T, P[j]? = some T → RW h (56 + 56 * j) T) (hb : b = 56 + 56 * P.length) (hR : RW h' b T) (hf : FB h h' b) : ∀ j U, (P ++ [T])[j]? = some U → RW h' (56 + 56 * j) U := by
  intro j U hj
  by_cases z : j < P.length
  · rw [List.getElem?_append_left z] at hj
    exact (hA j U hj).cg (fun k k1 k2 => hf.2 k (by omega))
  · rw [List.getElem?_append_right (by omega)] at hj
    have : j - P.length < 1 := (List.getElem?_eq_some_iff.mp hj).1
    rw [show j - P.length = 0 by omega] at hj
    cases hj
    rw [show j = P.length by omega, ← hb]; exact hR
theorem sp7_keepPast {P : List Tn} {K : Hp → Prop} (hR : RW h 0 T) (hA : RA h P) (k : ∀ h', RA h' (pastOf P T) → RW h' 0 T → FA h h' → K h') : Call G (d + 1) mX7_keepPast [.ref 89] h (pV K) := by
  obtain ⟨a1, a2, a3⟩ := hA
  refine Call.of (M := mX7_keepPast) (n := 1) (by decide +kernel) rfl ?_
  show WP _ _ _ _ 0 [some (.ref 89), none] [] _
  by_cases hq : P.length < 24
  · rw [pastOf, if_pos hq] at k
    have e2 : hs h 89 2 (nI P.length) 89 2 = nI P.length := hs_same _ _ _ _
    have hR1 : RW (hs h 89 2 (nI P.length)) 0 T := hR.cg (fun k _ _ => by rw [hs_ne (by decide)])
    have main : WP G (d + 1) mX7_keepPast (pV K) 42 [some (.ref 89), some (.int (nI 0))] [] h := by
      refine wp_aload_n (pc := 42) (i := 0) dX7_keepPast_42 rfl rfl ?_
      refine wp_dup (pc := 43) dX7_keepPast_43 rfl ?_
      refine wp_gfv (pc := 44) fk_X7_140 dX7_keepPast_44 rfl rfl (by first | with_reducible assumption | with_reducible exact hs_same _ _ _ _ | rfl) ?_
      refine wp_aload_n (pc := 47) (i := 0) dX7_keepPast_47 rfl rfl ?_
      refine wp_gfv (pc := 48) fk_X7_140 dX7_keepPast_48 rfl rfl (by first | with_reducible assumption | with_reducible exact hs_same _ _ _ _ | rfl) ?_
      refine wp_bipush (pc := 51) (v := nI 24) dX7_keepPast_51 rfl ?_
      first | (with_reducible show WP _ _ _ _ _ _ (Value.int (nI _) :: Value.int (nI _) :: _) _; refine wp_icmp_neN (pc := 53) (tgt := 60) dX7_keepPast_53 (by decide) (by omega) (by omega) (fun c53 => ?_) (fun c53 => ?_)) | refine wp_icmp_ne (pc := 53) (tgt := 60) dX7_keepPast_53 (by decide) (fun c53 => ?_) (fun c53 => ?_)
      refine wp_iconst (pc := 60) (v := nI 0) dX7_keepPast_60 rfl ?_
      first | (with_reducible show WP _ _ _ _ _ _ (Value.int (nI _) :: Value.int (nI _) :: _) _; refine wp_isubN (pc := 61) dX7_keepPast_61 (by omega) ?_) | refine wp_isub (pc := 61) dX7_keepPast_61 ?_
      refine wp_pf (pc := 62) fp_X7_140 dX7_keepPast_62 rfl rfl rfl rfl ?_
      refine wp_aload_n (pc := 65) (i := 0) dX7_keepPast_65 rfl rfl ?_
      refine wp_iconst (pc := 66) (v := nI 0) dX7_keepPast_66 rfl ?_
      refine wp_bipush (pc := 67) (v := nI 56) dX7_keepPast_67 rfl ?_
      refine wp_bipush (pc := 69) (v := nI 56) dX7_keepPast_69 rfl ?_
      refine wp_aload_n (pc := 71) (i := 0) dX7_keepPast_71 rfl rfl ?_
      refine wp_gfv (pc := 72) fk_X7_140 dX7_keepPast_72 rfl rfl (by first | with_reducible assumption | with_reducible exact hs_same _ _ _ _ | rfl) ?_
      first | (with_reducible show WP _ _ _ _ _ _ (Value.int (nI _) :: Value.int (nI _) :: _) _; refine wp_imulN (pc := 75) dX7_keepPast_75 ?_) | refine wp_imul (pc := 75) dX7_keepPast_75 ?_
      first | (with_reducible show WP _ _ _ _ _ _ (Value.int (nI _) :: Value.int (nI _) :: _) _; refine wp_iaddN (pc := 76) dX7_keepPast_76 ?_) | refine wp_iadd (pc := 76) dX7_keepPast_76 ?_
      refine wp_cV2v (pc := 77) lk_X7_132 dX7_keepPast_77 rfl rfl rfl (sp7_copyTown hR1 (by omega) (by omega) (by omega) (fun h1 hR2 hf2 => ?_))
      rotate_left
      rotate_left
      · have f2 : h1 89 2 = nI P.length := by rw [hf2.1 89 (by decide)]; exact e2
        refine wp_aload_n (pc := 80) (i := 0) dX7_keepPast_80 rfl rfl ?_
        refine wp_dup (pc := 81) dX7_keepPast_81 rfl ?_
        refine wp_gfv (pc := 82) fk_X7_140 dX7_keepPast_82 rfl rfl (by first | with_reducible assumption | with_reducible exact hs_same _ _ _ _ | rfl) ?_
        refine wp_iconst (pc := 85) (v := nI 1) dX7_keepPast_85 rfl ?_
        first | (with_reducible show WP _ _ _ _ _ _ (Value.int (nI _) :: Value.int (nI _) :: _) _; refine wp_iaddN (pc := 86) dX7_keepPast_86 ?_) | refine wp_iadd (pc := 86) dX7_keepPast_86 ?_
        refine wp_pf (pc := 87) fp_X7_140 dX7_keepPast_87 rfl rfl rfl rfl ?_
        refine wp_vret (pc := 90) dX7_keepPast_90 rfl ?_
        rotate_left
        have hf3 : FA h (hs h1 89 2 (nI (P.length + 1))) := ⟨fun a b1 b2 => by rw [hs_ne b1, hf2.1 a b2, hs_ne b1], fun q hq => by rw [hs_ix hq, hf2.1 89 (by decide), hs_ix hq], fun q q1 q2 => by rw [hs_ne (by decide), hf2.2 q (by omega), hs_ne (by decide)]⟩
        refine k _ ⟨?_, by simp; omega, ?_⟩ ?_ hf3
        · rw [hs_same, List.length_append]; rfl
        · have := ra_put (h := hs h 89 2 (nI P.length)) (fun j U hj => (a3 j U hj).cg (fun k _ _ => by rw [hs_ne (by decide)])) rfl hR2 hf2
          exact fun j U hj => (this j U hj).cg (fun k _ _ => by rw [hs_ne (by decide)])
        · exact ((hR1.fb hf2 (by omega))).cg (fun k _ _ => by rw [hs_ne (by decide)])
      · exact absurd c53 (by omega)
    refine wp_iconst (pc := 0) (v := nI 0) dX7_keepPast_0 rfl ?_
    refine wp_istore_n (pc := 1) (i := 1) dX7_keepPast_1 rfl rfl (by decide) rfl ?_
    dsimp only [List.set_cons_zero, List.set_cons_succ]
    refine wp_iload_n (pc := 2) (i := 1) dX7_keepPast_2 rfl rfl ?_
    refine wp_sipush (pc := 3) (v := nI 1288) dX7_keepPast_3 rfl ?_
    first | (with_reducible show WP _ _ _ _ _ _ (Value.int (nI _) :: Value.int (nI _) :: _) _; refine wp_icmp_geN (pc := 6) (tgt := 42) dX7_keepPast_6 (by decide) (by omega) (by omega) (fun c6 => ?_) (fun c6 => ?_)) | refine wp_icmp_ge (pc := 6) (tgt := 42) dX7_keepPast_6 (by decide) (fun c6 => ?_) (fun c6 => ?_)
    rotate_left
    refine wp_aload_n (pc := 9) (i := 0) dX7_keepPast_9 rfl rfl ?_
    refine wp_gfv (pc := 10) fk_X7_140 dX7_keepPast_10 rfl rfl (by first | with_reducible assumption | with_reducible exact hs_same _ _ _ _ | rfl) ?_
    refine wp_bipush (pc := 13) (v := nI 24) dX7_keepPast_13 rfl ?_
    first | (with_reducible show WP _ _ _ _ _ _ (Value.int (nI _) :: Value.int (nI _) :: _) _; refine wp_icmp_neN (pc := 15) (tgt := 42) dX7_keepPast_15 (by decide) (by omega) (by omega) (fun c15 => ?_) (fun c15 => ?_)) | refine wp_icmp_ne (pc := 15) (tgt := 42) dX7_keepPast_15 (by decide) (fun c15 => ?_) (fun c15 => ?_)
    rotate_left
    rotate_left
    · exact main
    · exact main
    · exact absurd c15 (by omega)
  · have hl : P.length = 24 := by omega
    rw [pastOf, if_neg hq] at k
    rw [hl] at a1
    have loop : ∀ m i h1, i + m = 1288 → (∀ a, a ≠ 90 → h1 a = h a) → (∀ q, 56 ≤ q → q < 56 + i → h1 90 q = h 90 (q + 56)) → (∀ q, q < 56 ∨ 56 + i ≤ q → h1 90 q = h 90 q) → WP G (d + 1) mX7_keepPast (pV K) 2 [some (.ref 89), some (.int (nI i))] [] h1 := by
      intro m
      induction m with
      | zero =>
        intro i h1 him q1 q2 q3
        have e1 : h1 89 2 = nI 24 := by rw [q1 89 (by decide)]; exact a1
        have e2 : hs h1 89 2 (nI 23) 89 2 = nI 23 := hs_same _ _ _ _
        have hR1 : RW (hs h1 89 2 (nI 23)) 0 T := hR.cg (fun k _ _ => by rw [hs_ne (by decide)]; exact q3 k (by omega))
        have hA1 : ∀ j U, (P.drop 1)[j]? = some U → RW (hs h1 89 2 (nI 23)) (56 + 56 * j) U := fun j U hj => by
          rw [List.getElem?_drop] at hj
          have hj2 : 1 + j < P.length := (List.getElem?_eq_some_iff.mp hj).1
          intro q hq
          rw [hs_ne (by decide), q2 _ (by omega) (by omega)]
          have := a3 _ U hj q hq
          rw [show 56 + 56 * j + q + 56 = 56 + 56 * (1 + j) + q by omega]; exact this
        refine wp_iload_n (pc := 2) (i := 1) dX7_keepPast_2 rfl rfl ?_
        refine wp_sipush (pc := 3) (v := nI 1288) dX7_keepPast_3 rfl ?_
        first | (with_reducible show WP _ _ _ _ _ _ (Value.int (nI _) :: Value.int (nI _) :: _) _; refine wp_icmp_geN (pc := 6) (tgt := 42) dX7_keepPast_6 (by decide) (by omega) (by omega) (fun c6 => ?_) (fun c6 => ?_)) | refine wp_icmp_ge (pc := 6) (tgt := 42) dX7_keepPast_6 (by decide) (fun c6 => ?_) (fun c6 => ?_)
        rotate_left
        refine wp_aload_n (pc := 9) (i := 0) dX7_keepPast_9 rfl rfl ?_
        refine wp_gfv (pc := 10) fk_X7_140 dX7_keepPast_10 rfl rfl (by first | with_reducible assumption | with_reducible exact hs_same _ _ _ _ | rfl) ?_
        refine wp_bipush (pc := 13) (v := nI 24) dX7_keepPast_13 rfl ?_
        first | (with_reducible show WP _ _ _ _ _ _ (Value.int (nI _) :: Value.int (nI _) :: _) _; refine wp_icmp_neN (pc := 15) (tgt := 42) dX7_keepPast_15 (by decide) (by omega) (by omega) (fun c15 => ?_) (fun c15 => ?_)) | refine wp_icmp_ne (pc := 15) (tgt := 42) dX7_keepPast_15 (by decide) (fun c15 => ?_) (fun c15 => ?_)
        rotate_left
        rotate_left
        rotate_left
        · exact absurd rfl c15
        · exact absurd him (by omega)
        refine wp_aload_n (pc := 42) (i := 0) dX7_keepPast_42 rfl rfl ?_
        refine wp_dup (pc := 43) dX7_keepPast_43 rfl ?_
        refine wp_gfv (pc := 44) fk_X7_140 dX7_keepPast_44 rfl rfl (by first | with_reducible assumption | with_reducible exact hs_same _ _ _ _ | rfl) ?_
        refine wp_aload_n (pc := 47) (i := 0) dX7_keepPast_47 rfl rfl ?_
        refine wp_gfv (pc := 48) fk_X7_140 dX7_keepPast_48 rfl rfl (by first | with_reducible assumption | with_reducible exact hs_same _ _ _ _ | rfl) ?_
        refine wp_bipush (pc := 51) (v := nI 24) dX7_keepPast_51 rfl ?_
        first | (with_reducible show WP _ _ _ _ _ _ (Value.int (nI _) :: Value.int (nI _) :: _) _; refine wp_icmp_neN (pc := 53) (tgt := 60) dX7_keepPast_53 (by decide) (by omega) (by omega) (fun c53 => ?_) (fun c53 => ?_)) | refine wp_icmp_ne (pc := 53) (tgt := 60) dX7_keepPast_53 (by decide) (fun c53 => ?_) (fun c53 => ?_)
        rotate_left
        refine wp_iconst (pc := 56) (v := nI 1) dX7_keepPast_56 rfl ?_
        refine wp_goto (pc := 57) (tgt := 61) dX7_keepPast_57 (by decide) ?_
        first | (with_reducible show WP _ _ _ _ _ _ (Value.int (nI _) :: Value.int (nI _) :: _) _; refine wp_isubN (pc := 61) dX7_keepPast_61 (by omega) ?_) | refine wp_isub (pc := 61) dX7_keepPast_61 ?_
        refine wp_pf (pc := 62) fp_X7_140 dX7_keepPast_62 rfl rfl rfl rfl ?_
        refine wp_aload_n (pc := 65) (i := 0) dX7_keepPast_65 rfl rfl ?_
        refine wp_iconst (pc := 66) (v := nI 0) dX7_keepPast_66 rfl ?_
        refine wp_bipush (pc := 67) (v := nI 56) dX7_keepPast_67 rfl ?_
        refine wp_bipush (pc := 69) (v := nI 56) dX7_keepPast_69 rfl ?_
        refine wp_aload_n (pc := 71) (i := 0) dX7_keepPast_71 rfl rfl ?_
        refine wp_gfv (pc := 72) fk_X7_140 dX7_keepPast_72 rfl rfl (by first | with_reducible assumption | with_reducible exact hs_same _ _ _ _ | rfl) ?_
        first | (with_reducible show WP _ _ _ _ _ _ (Value.int (nI _) :: Value.int (nI _) :: _) _; refine wp_imulN (pc := 75) dX7_keepPast_75 ?_) | refine wp_imul (pc := 75) dX7_keepPast_75 ?_
        first | (with_reducible show WP _ _ _ _ _ _ (Value.int (nI _) :: Value.int (nI _) :: _) _; refine wp_iaddN (pc := 76) dX7_keepPast_76 ?_) | refine wp_iadd (pc := 76) dX7_keepPast_76 ?_
        refine wp_cV2v (pc := 77) lk_X7_132 dX7_keepPast_77 rfl rfl rfl (sp7_copyTown hR1 (by omega) (by omega) (by omega) (fun h2 hR2 hf2 => ?_))
        rotate_left
        · exact absurd rfl c53
        · have f2 : h2 89 2 = nI 23 := by rw [hf2.1 89 (by decide)]; exact e2
          refine wp_aload_n (pc := 80) (i := 0) dX7_keepPast_80 rfl rfl ?_
          refine wp_dup (pc := 81) dX7_keepPast_81 rfl ?_
          refine wp_gfv (pc := 82) fk_X7_140 dX7_keepPast_82 rfl rfl (by first | with_reducible assumption | with_reducible exact hs_same _ _ _ _ | rfl) ?_
          refine wp_iconst (pc := 85) (v := nI 1) dX7_keepPast_85 rfl ?_
          first | (with_reducible show WP _ _ _ _ _ _ (Value.int (nI _) :: Value.int (nI _) :: _) _; refine wp_iaddN (pc := 86) dX7_keepPast_86 ?_) | refine wp_iadd (pc := 86) dX7_keepPast_86 ?_
          refine wp_pf (pc := 87) fp_X7_140 dX7_keepPast_87 rfl rfl rfl rfl ?_
          refine wp_vret (pc := 90) dX7_keepPast_90 rfl ?_
          rotate_left
          have hf3 : FA h (hs h2 89 2 (nI (23 + 1))) := ⟨fun a b1 b2 => by rw [hs_ne b1, hf2.1 a b2, hs_ne b1, q1 a b2], fun q hq => by rw [hs_ix hq, hf2.1 89 (by decide), hs_ix hq, q1 89 (by decide)], fun q z1 z2 => by rw [hs_ne (by decide), hf2.2 q (by omega), hs_ne (by decide), q3 q (by omega)]⟩
          refine k _ ⟨?_, by simp; omega, ?_⟩ ?_ hf3
          · rw [hs_same, List.length_append, List.length_drop, hl]; rfl
          · have := ra_put (h := hs h1 89 2 (nI 23)) hA1 (by rw [List.length_drop, hl]) hR2 hf2
            exact fun j U hj => (this j U hj).cg (fun k _ _ => by rw [hs_ne (by decide)])
          · exact ((hR1.fb hf2 (by omega))).cg (fun k _ _ => by rw [hs_ne (by decide)])
      | succ m ih =>
        intro i h1 him q1 q2 q3
        have e1 : h1 89 2 = nI 24 := by rw [q1 89 (by decide)]; exact a1
        refine wp_iload_n (pc := 2) (i := 1) dX7_keepPast_2 rfl rfl ?_
        refine wp_sipush (pc := 3) (v := nI 1288) dX7_keepPast_3 rfl ?_
        first | (with_reducible show WP _ _ _ _ _ _ (Value.int (nI _) :: Value.int (nI _) :: _) _; refine wp_icmp_geN (pc := 6) (tgt := 42) dX7_keepPast_6 (by decide) (by omega) (by omega) (fun c6 => ?_) (fun c6 => ?_)) | refine wp_icmp_ge (pc := 6) (tgt := 42) dX7_keepPast_6 (by decide) (fun c6 => ?_) (fun c6 => ?_)
        rotate_left
        refine wp_aload_n (pc := 9) (i := 0) dX7_keepPast_9 rfl rfl ?_
        refine wp_gfv (pc := 10) fk_X7_140 dX7_keepPast_10 rfl rfl (by first | with_reducible assumption | with_reducible exact hs_same _ _ _ _ | rfl) ?_
        refine wp_bipush (pc := 13) (v := nI 24) dX7_keepPast_13 rfl ?_
        first | (with_reducible show WP _ _ _ _ _ _ (Value.int (nI _) :: Value.int (nI _) :: _) _; refine wp_icmp_neN (pc := 15) (tgt := 42) dX7_keepPast_15 (by decide) (by omega) (by omega) (fun c15 => ?_) (fun c15 => ?_)) | refine wp_icmp_ne (pc := 15) (tgt := 42) dX7_keepPast_15 (by decide) (fun c15 => ?_) (fun c15 => ?_)
        rotate_left
        refine wp_aload_n (pc := 18) (i := 0) dX7_keepPast_18 rfl rfl ?_
        refine wp_gfr (pc := 19) fk_X7_7 dX7_keepPast_19 rfl rfl (by decide) ?_
        refine wp_bipush (pc := 22) (v := nI 56) dX7_keepPast_22 rfl ?_
        refine wp_iload_n (pc := 24) (i := 1) dX7_keepPast_24 rfl rfl ?_
        first | (with_reducible show WP _ _ _ _ _ _ (Value.int (nI _) :: Value.int (nI _) :: _) _; refine wp_iaddN (pc := 25) dX7_keepPast_25 ?_) | refine wp_iadd (pc := 25) dX7_keepPast_25 ?_
        refine wp_aload_n (pc := 26) (i := 0) dX7_keepPast_26 rfl rfl ?_
        refine wp_gfr (pc := 27) fk_X7_7 dX7_keepPast_27 rfl rfl (by decide) ?_
        refine wp_bipush (pc := 30) (v := nI 112) dX7_keepPast_30 rfl ?_
        refine wp_iload_n (pc := 32) (i := 1) dX7_keepPast_32 rfl rfl ?_
        first | (with_reducible show WP _ _ _ _ _ _ (Value.int (nI _) :: Value.int (nI _) :: _) _; refine wp_iaddN (pc := 33) dX7_keepPast_33 ?_) | refine wp_iadd (pc := 33) dX7_keepPast_33 ?_
        first | (with_reducible show WP _ _ _ _ _ _ (Value.int (nI _) :: _) _; refine wp_ialdN (pc := 34) dX7_keepPast_34 rfl (by omega) (by first | with_reducible assumption | with_reducible exact hs_same _ _ _ _ | rfl) ?_) | refine wp_iald (pc := 34) dX7_keepPast_34 rfl (by assumption) rfl ?_
        first | (with_reducible show WP _ _ _ _ _ _ (_ :: Value.int (nI _) :: _) _; refine wp_iastN (pc := 35) dX7_keepPast_35 rfl (by omega) ?_) | refine wp_iast (pc := 35) dX7_keepPast_35 rfl (by assumption) rfl ?_
        first | refine wp_iincN (pc := 36) (i := 1) (n := 1) dX7_keepPast_36 rfl rfl (by decide) rfl ?_ | refine wp_iinc (pc := 36) (i := 1) dX7_keepPast_36 rfl rfl rfl (by decide) rfl ?_
        dsimp only [List.set_cons_zero, List.set_cons_succ]
        refine wp_goto (pc := 39) (tgt := 2) dX7_keepPast_39 (by decide) ?_
        rotate_left
        · exact absurd him (by omega)
        · exact absurd rfl c15
        · refine ih (i + 1) _ (by omega) (fun a ha => by rw [hs_ne ha]; exact q1 a ha) (fun q b1 b2 => ?_) (fun q hq => ?_)
          · by_cases z : q = 56 + i
            · rw [z, hs_same, q3 _ (by omega)]; congr 1; omega
            · rw [hs_ix (by omega)]; exact q2 q b1 (by omega)
          · rw [hs_ix (by omega)]; exact q3 q (by omega)
    refine wp_iconst (pc := 0) (v := nI 0) dX7_keepPast_0 rfl ?_
    refine wp_istore_n (pc := 1) (i := 1) dX7_keepPast_1 rfl rfl (by decide) rfl ?_
    dsimp only [List.set_cons_zero, List.set_cons_succ]
    rotate_left
    exact loop 1288 0 h (by omega) (fun _ _ => rfl) (fun q b1 b2 => absurd b1 (by omega)) (fun _ _ => rfl)
theorem RA.row {P : List Tn} {q : Nat} {v : Int32} (hA : RA h P) (hq : q < 56) : RA (hs h 90 q v) P := hA.cg (by rw [hs_ne (by decide)]) (fun k _ _ => hs_ix (by omega))
theorem sp7_put {q v : Nat} {K : Int32 → Hp → Prop} (H : RI h σ) (hq : q < 56) (hq1 : q ≠ 1) (k : ∀ h', RI h' (act σ (up (gT σ) q v)) → DS h h' → K (nI (gT σ q)) h') : Call G (d + 2) mX7_put [.ref 89, .int (nI q), .int (nI v)] h (pI K) := by
  refine Call.of (M := mX7_put) (n := 1) (by decide +kernel) rfl ?_
  show WP _ _ _ _ 0 [some (.ref 89), some (.int (nI q)), some (.int (nI v)), none] [] _
  refine wp_aload_n (pc := 0) (i := 0) dX7_put_0 rfl rfl ?_
  refine wp_cV0v (pc := 1) lk_X7_169 dX7_put_1 rfl rfl rfl (sp7_keepPast H.1 H.2.2.1 (fun h1 hA1 hR1 hf1 => ?_))
  rotate_left
  have e1 : h1 90 q = nI (gT σ q) := by have := hR1 q hq; rw [Nat.zero_add] at this; exact this
  refine wp_aload_n (pc := 4) (i := 0) dX7_put_4 rfl rfl ?_
  refine wp_gfr (pc := 5) fk_X7_7 dX7_put_5 rfl rfl (by decide) ?_
  refine wp_iload_n (pc := 8) (i := 1) dX7_put_8 rfl rfl ?_
  first | (with_reducible show WP _ _ _ _ _ _ (Value.int (nI _) :: _) _; refine wp_ialdN (pc := 9) dX7_put_9 rfl (by omega) (by first | with_reducible assumption | with_reducible exact hs_same _ _ _ _ | rfl) ?_) | refine wp_iald (pc := 9) dX7_put_9 rfl (by assumption) rfl ?_
  refine wp_istore_n (pc := 10) (i := 3) dX7_put_10 rfl rfl (by decide) rfl ?_
  dsimp only [List.set_cons_zero, List.set_cons_succ]
  refine wp_aload_n (pc := 11) (i := 0) dX7_put_11 rfl rfl ?_
  refine wp_gfr (pc := 12) fk_X7_7 dX7_put_12 rfl rfl (by decide) ?_
  refine wp_iload_n (pc := 15) (i := 1) dX7_put_15 rfl rfl ?_
  refine wp_iload_n (pc := 16) (i := 2) dX7_put_16 rfl rfl ?_
  first | (with_reducible show WP _ _ _ _ _ _ (_ :: Value.int (nI _) :: _) _; refine wp_iastN (pc := 17) dX7_put_17 rfl (by omega) ?_) | refine wp_iast (pc := 17) dX7_put_17 rfl (by assumption) rfl ?_
  refine wp_iload_n (pc := 18) (i := 3) dX7_put_18 rfl rfl ?_
  refine wp_iret (pc := 19) dX7_put_19 rfl ?_
  rotate_left
  have z := RWup (v := v) hR1 hq
  rw [Nat.zero_add] at z
  have hf2 : FA h1 (hs h1 90 q (nI v)) := FA.row (by omega)
  exact k _ (H.acts z (hA1.row hq) (by rw [up_ne (by omega)]) (hf1.tr hf2)) (hf1.tr hf2).ds
theorem sr_sick {x n : Int32} {K : Int32 → Hp → Prop} (H : RI h σ) (hO : OKT (gT σ)) (k : ∀ h', RI h' (fSick σ x n).2 → DS h h' → K (fSick σ x n).1 h') : Call G (d + 3) mX7_sick [.ref 89, .int x, .int n] h (pI K) := by
  refine Call.of (M := mX7_sick) (n := 0) (by decide +kernel) rfl ?_
  show WP _ _ _ _ 0 [some (.ref 89), some (.int x), some (.int n)] [] _
  refine wp_aload_n (pc := 0) (i := 0) dX7_sick_0 rfl rfl ?_
  refine wp_iload_n (pc := 1) (i := 1) dX7_sick_1 rfl rfl ?_
  refine wp_cV1i (pc := 2) lk_X7_176 dX7_sick_2 rfl rfl rfl (sp7_isGran H.1 hO ?_)
  first | (with_reducible show WP _ _ _ _ _ _ (Value.int (bI _) :: _) _; refine wp_if_eqB (pc := 5) (tgt := 32) dX7_sick_5 (by decide) (fun c5 => ?_) (fun c5 => ?_)) | (with_reducible show WP _ _ _ _ _ _ (Value.int (nI _) :: _) _; refine wp_if_eqN (pc := 5) (tgt := 32) dX7_sick_5 (by decide) (by omega) (fun c5 => ?_) (fun c5 => ?_)) | refine wp_if_eq (pc := 5) (tgt := 32) dX7_sick_5 (by decide) (fun c5 => ?_) (fun c5 => ?_)
  refine wp_ldc (pc := 32) kn_X7_58 dX7_sick_32 ?_
  refine wp_iret (pc := 34) dX7_sick_34 rfl ?_
  rotate_left
  refine wp_iload_n (pc := 8) (i := 2) dX7_sick_8 rfl rfl ?_
  first | (with_reducible show WP _ _ _ _ _ _ (Value.int (nI _) :: _) _; refine wp_i2lN (pc := 9) dX7_sick_9 (by omega) ?_) | refine wp_i2l (pc := 9) dX7_sick_9 rfl ?_
  refine wp_lconst (pc := 10) (v := lN 0) dX7_sick_10 rfl ?_
  refine wp_ldc2 (pc := 11) kn_X7_179 dX7_sick_11 ?_
  refine wp_cS3i (pc := 14) lk_X7_48 dX7_sick_14 rfl (sp7_btw (by decide) (by decide) ?_)
  first | (with_reducible show WP _ _ _ _ _ _ (Value.int (bI _) :: _) _; refine wp_if_eqB (pc := 17) (tgt := 32) dX7_sick_17 (by decide) (fun c17 => ?_) (fun c17 => ?_)) | (with_reducible show WP _ _ _ _ _ _ (Value.int (nI _) :: _) _; refine wp_if_eqN (pc := 17) (tgt := 32) dX7_sick_17 (by decide) (by omega) (fun c17 => ?_) (fun c17 => ?_)) | refine wp_if_eq (pc := 17) (tgt := 32) dX7_sick_17 (by decide) (fun c17 => ?_) (fun c17 => ?_)
  refine wp_ldc (pc := 32) kn_X7_58 dX7_sick_32 ?_
  refine wp_iret (pc := 34) dX7_sick_34 rfl ?_
  rotate_left
  rotate_left
  · rw [fSick, c5] at k; exact k h H DS.rf
  · rw [fSick, c5, c17] at k; exact k h H DS.rf
  rw [fSick, c5, c17] at k
  have o1 := hO.2.1
  obtain ⟨g, hg, rfl⟩ := inN_t (by omega) c5
  obtain ⟨m, -, hm, rfl⟩ := btw_t (by decide) c17
  rw [nI_clamp (show g < 2 ^ 31 by omega), nI_clamp (show m < 2 ^ 31 by omega)] at k
  refine wp_aload_n (pc := 20) (i := 0) dX7_sick_20 rfl rfl ?_
  refine wp_bipush (pc := 21) (v := nI 44) dX7_sick_21 rfl ?_
  refine wp_iload_n (pc := 23) (i := 1) dX7_sick_23 rfl rfl ?_
  first | (with_reducible show WP _ _ _ _ _ _ (Value.int (nI _) :: Value.int (nI _) :: _) _; refine wp_iaddN (pc := 24) dX7_sick_24 ?_) | refine wp_iadd (pc := 24) dX7_sick_24 ?_
  refine wp_iload_n (pc := 25) (i := 2) dX7_sick_25 rfl rfl ?_
  refine wp_cV2i (pc := 26) lk_X7_181 dX7_sick_26 rfl rfl rfl (sp7_put H (by omega) (by omega) (fun h1 hI1 hd1 => ?_))
  refine wp_goto (pc := 29) (tgt := 34) dX7_sick_29 (by decide) ?_
  refine wp_iret (pc := 34) dX7_sick_34 rfl ?_
  rotate_left
  exact k h1 hI1 hd1
theorem sr_swap {x n : Int32} {K : Int32 → Hp → Prop} (H : RI h σ) (hO : OKT (gT σ)) (k : ∀ h', RI h' (fSwap σ x n).2 → DS h h' → K (fSwap σ x n).1 h') : Call G (d + 3) mX7_swap [.ref 89, .int x, .int n] h (pI K) := by
  refine Call.of (M := mX7_swap) (n := 0) (by decide +kernel) rfl ?_
  show WP _ _ _ _ 0 [some (.ref 89), some (.int x), some (.int n)] [] _
  refine wp_aload_n (pc := 0) (i := 0) dX7_swap_0 rfl rfl ?_
  refine wp_iload_n (pc := 1) (i := 1) dX7_swap_1 rfl rfl ?_
  refine wp_cV1i (pc := 2) lk_X7_176 dX7_swap_2 rfl rfl rfl (sp7_isGran H.1 hO ?_)
  first | (with_reducible show WP _ _ _ _ _ _ (Value.int (bI _) :: _) _; refine wp_if_eqB (pc := 5) (tgt := 28) dX7_swap_5 (by decide) (fun c5 => ?_) (fun c5 => ?_)) | (with_reducible show WP _ _ _ _ _ _ (Value.int (nI _) :: _) _; refine wp_if_eqN (pc := 5) (tgt := 28) dX7_swap_5 (by decide) (by omega) (fun c5 => ?_) (fun c5 => ?_)) | refine wp_if_eq (pc := 5) (tgt := 28) dX7_swap_5 (by decide) (fun c5 => ?_) (fun c5 => ?_)
  refine wp_ldc (pc := 28) kn_X7_58 dX7_swap_28 ?_
  refine wp_iret (pc := 30) dX7_swap_30 rfl ?_
  rotate_left
  refine wp_aload_n (pc := 8) (i := 0) dX7_swap_8 rfl rfl ?_
  refine wp_iload_n (pc := 9) (i := 2) dX7_swap_9 rfl rfl ?_
  refine wp_cV1i (pc := 10) lk_X7_184 dX7_swap_10 rfl rfl rfl (sp7_isChild H.1 hO ?_)
  first | (with_reducible show WP _ _ _ _ _ _ (Value.int (bI _) :: _) _; refine wp_if_eqB (pc := 13) (tgt := 28) dX7_swap_13 (by decide) (fun c13 => ?_) (fun c13 => ?_)) | (with_reducible show WP _ _ _ _ _ _ (Value.int (nI _) :: _) _; refine wp_if_eqN (pc := 13) (tgt := 28) dX7_swap_13 (by decide) (by omega) (fun c13 => ?_) (fun c13 => ?_)) | refine wp_if_eq (pc := 13) (tgt := 28) dX7_swap_13 (by decide) (fun c13 => ?_) (fun c13 => ?_)
  refine wp_ldc (pc := 28) kn_X7_58 dX7_swap_28 ?_
  refine wp_iret (pc := 30) dX7_swap_30 rfl ?_
  rotate_left
  rotate_left
  · rw [fSwap, c5] at k; exact k h H DS.rf
  · rw [fSwap, c5, c13] at k; exact k h H DS.rf
  rw [fSwap, c5, c13] at k
  have o0 := hO.1
  have o1 := hO.2.1
  obtain ⟨g, hg, rfl⟩ := inN_t (by omega) c5
  obtain ⟨m, hm, rfl⟩ := inN_t (by omega) c13
  rw [nI_clamp (show g < 2 ^ 31 by omega), nI_clamp (show m < 2 ^ 31 by omega)] at k
  refine wp_aload_n (pc := 16) (i := 0) dX7_swap_16 rfl rfl ?_
  refine wp_bipush (pc := 17) (v := nI 32) dX7_swap_17 rfl ?_
  refine wp_iload_n (pc := 19) (i := 1) dX7_swap_19 rfl rfl ?_
  first | (with_reducible show WP _ _ _ _ _ _ (Value.int (nI _) :: Value.int (nI _) :: _) _; refine wp_iaddN (pc := 20) dX7_swap_20 ?_) | refine wp_iadd (pc := 20) dX7_swap_20 ?_
  refine wp_iload_n (pc := 21) (i := 2) dX7_swap_21 rfl rfl ?_
  refine wp_cV2i (pc := 22) lk_X7_181 dX7_swap_22 rfl rfl rfl (sp7_put H (by omega) (by omega) (fun h1 hI1 hd1 => ?_))
  refine wp_goto (pc := 25) (tgt := 30) dX7_swap_25 (by decide) ?_
  refine wp_iret (pc := 30) dX7_swap_30 rfl ?_
  rotate_left
  exact k h1 hI1 hd1
theorem sr_pace {x n : Int32} {K : Int32 → Hp → Prop} (H : RI h σ) (hO : OKT (gT σ)) (k : ∀ h', RI h' (fPace σ x n).2 → DS h h' → K (fPace σ x n).1 h') : Call G (d + 3) mX7_pace [.ref 89, .int x, .int n] h (pI K) := by
  refine Call.of (M := mX7_pace) (n := 0) (by decide +kernel) rfl ?_
  show WP _ _ _ _ 0 [some (.ref 89), some (.int x), some (.int n)] [] _
  refine wp_aload_n (pc := 0) (i := 0) dX7_pace_0 rfl rfl ?_
  refine wp_iload_n (pc := 1) (i := 1) dX7_pace_1 rfl rfl ?_
  refine wp_cV1i (pc := 2) lk_X7_176 dX7_pace_2 rfl rfl rfl (sp7_isGran H.1 hO ?_)
  first | (with_reducible show WP _ _ _ _ _ _ (Value.int (bI _) :: _) _; refine wp_if_eqB (pc := 5) (tgt := 32) dX7_pace_5 (by decide) (fun c5 => ?_) (fun c5 => ?_)) | (with_reducible show WP _ _ _ _ _ _ (Value.int (nI _) :: _) _; refine wp_if_eqN (pc := 5) (tgt := 32) dX7_pace_5 (by decide) (by omega) (fun c5 => ?_) (fun c5 => ?_)) | refine wp_if_eq (pc := 5) (tgt := 32) dX7_pace_5 (by decide) (fun c5 => ?_) (fun c5 => ?_)
  refine wp_ldc (pc := 32) kn_X7_58 dX7_pace_32 ?_
  refine wp_iret (pc := 34) dX7_pace_34 rfl ?_
  rotate_left
  refine wp_iload_n (pc := 8) (i := 2) dX7_pace_8 rfl rfl ?_
  first | (with_reducible show WP _ _ _ _ _ _ (Value.int (nI _) :: _) _; refine wp_i2lN (pc := 9) dX7_pace_9 (by omega) ?_) | refine wp_i2l (pc := 9) dX7_pace_9 rfl ?_
  refine wp_lconst (pc := 10) (v := lN 0) dX7_pace_10 rfl ?_
  refine wp_ldc2 (pc := 11) kn_X7_187 dX7_pace_11 ?_
  refine wp_cS3i (pc := 14) lk_X7_48 dX7_pace_14 rfl (sp7_btw (by decide) (by decide) ?_)
  first | (with_reducible show WP _ _ _ _ _ _ (Value.int (bI _) :: _) _; refine wp_if_eqB (pc := 17) (tgt := 32) dX7_pace_17 (by decide) (fun c17 => ?_) (fun c17 => ?_)) | (with_reducible show WP _ _ _ _ _ _ (Value.int (nI _) :: _) _; refine wp_if_eqN (pc := 17) (tgt := 32) dX7_pace_17 (by decide) (by omega) (fun c17 => ?_) (fun c17 => ?_)) | refine wp_if_eq (pc := 17) (tgt := 32) dX7_pace_17 (by decide) (fun c17 => ?_) (fun c17 => ?_)
  refine wp_ldc (pc := 32) kn_X7_58 dX7_pace_32 ?_
  refine wp_iret (pc := 34) dX7_pace_34 rfl ?_
  rotate_left
  rotate_left
  · rw [fPace, c5] at k; exact k h H DS.rf
  · rw [fPace, c5, c17] at k; exact k h H DS.rf
  rw [fPace, c5, c17] at k
  have o1 := hO.2.1
  obtain ⟨g, hg, rfl⟩ := inN_t (by omega) c5
  obtain ⟨m, -, hm, rfl⟩ := btw_t (by decide) c17
  rw [nI_clamp (show g < 2 ^ 31 by omega), nI_clamp (show m < 2 ^ 31 by omega)] at k
  refine wp_aload_n (pc := 20) (i := 0) dX7_pace_20 rfl rfl ?_
  refine wp_bipush (pc := 21) (v := nI 38) dX7_pace_21 rfl ?_
  refine wp_iload_n (pc := 23) (i := 1) dX7_pace_23 rfl rfl ?_
  first | (with_reducible show WP _ _ _ _ _ _ (Value.int (nI _) :: Value.int (nI _) :: _) _; refine wp_iaddN (pc := 24) dX7_pace_24 ?_) | refine wp_iadd (pc := 24) dX7_pace_24 ?_
  refine wp_iload_n (pc := 25) (i := 2) dX7_pace_25 rfl rfl ?_
  refine wp_cV2i (pc := 26) lk_X7_181 dX7_pace_26 rfl rfl rfl (sp7_put H (by omega) (by omega) (fun h1 hI1 hd1 => ?_))
  refine wp_goto (pc := 29) (tgt := 34) dX7_pace_29 (by decide) ?_
  refine wp_iret (pc := 34) dX7_pace_34 rfl ?_
  rotate_left
  exact k h1 hI1 hd1
theorem sr_spoil {x n : Int32} {K : Int32 → Hp → Prop} (H : RI h σ) (hO : OKT (gT σ)) (k : ∀ h', RI h' (fSpoil σ x n).2 → DS h h' → K (fSpoil σ x n).1 h') : Call G (d + 3) mX7_spoil [.ref 89, .int x, .int n] h (pI K) := by
  refine Call.of (M := mX7_spoil) (n := 0) (by decide +kernel) rfl ?_
  show WP _ _ _ _ 0 [some (.ref 89), some (.int x), some (.int n)] [] _
  refine wp_aload_n (pc := 0) (i := 0) dX7_spoil_0 rfl rfl ?_
  refine wp_iload_n (pc := 1) (i := 1) dX7_spoil_1 rfl rfl ?_
  refine wp_cV1i (pc := 2) lk_X7_184 dX7_spoil_2 rfl rfl rfl (sp7_isChild H.1 hO ?_)
  first | (with_reducible show WP _ _ _ _ _ _ (Value.int (bI _) :: _) _; refine wp_if_eqB (pc := 5) (tgt := 20) dX7_spoil_5 (by decide) (fun c5 => ?_) (fun c5 => ?_)) | (with_reducible show WP _ _ _ _ _ _ (Value.int (nI _) :: _) _; refine wp_if_eqN (pc := 5) (tgt := 20) dX7_spoil_5 (by decide) (by omega) (fun c5 => ?_) (fun c5 => ?_)) | refine wp_if_eq (pc := 5) (tgt := 20) dX7_spoil_5 (by decide) (fun c5 => ?_) (fun c5 => ?_)
  refine wp_ldc (pc := 20) kn_X7_58 dX7_spoil_20 ?_
  refine wp_iret (pc := 22) dX7_spoil_22 rfl ?_
  rotate_left
  refine wp_iload_n (pc := 8) (i := 2) dX7_spoil_8 rfl rfl ?_
  first | (with_reducible show WP _ _ _ _ _ _ (Value.int (nI _) :: _) _; refine wp_i2lN (pc := 9) dX7_spoil_9 (by omega) ?_) | refine wp_i2l (pc := 9) dX7_spoil_9 rfl ?_
  refine wp_lconst (pc := 10) (v := lN 1) dX7_spoil_10 rfl ?_
  refine wp_ldc2 (pc := 11) kn_X7_192 dX7_spoil_11 ?_
  refine wp_cS3i (pc := 14) lk_X7_48 dX7_spoil_14 rfl (sp7_btw (by decide) (by decide) ?_)
  first | (with_reducible show WP _ _ _ _ _ _ (Value.int (bI _) :: _) _; refine wp_if_neB (pc := 17) (tgt := 23) dX7_spoil_17 (by decide) (fun c17 => ?_) (fun c17 => ?_)) | (with_reducible show WP _ _ _ _ _ _ (Value.int (nI _) :: _) _; refine wp_if_neN (pc := 17) (tgt := 23) dX7_spoil_17 (by decide) (by omega) (fun c17 => ?_) (fun c17 => ?_)) | refine wp_if_ne (pc := 17) (tgt := 23) dX7_spoil_17 (by decide) (fun c17 => ?_) (fun c17 => ?_)
  rotate_left
  refine wp_ldc (pc := 20) kn_X7_58 dX7_spoil_20 ?_
  refine wp_iret (pc := 22) dX7_spoil_22 rfl ?_
  rotate_left
  · rw [fSpoil, c5] at k; exact k h H DS.rf
  rotate_left
  · rw [fSpoil, c5, c17] at k; exact k h H DS.rf
  rw [fSpoil, c5, c17] at k
  have o0 := hO.1
  obtain ⟨c, hc, rfl⟩ := inN_t (by omega) c5
  obtain ⟨m, -, hm, rfl⟩ := btw_t (by decide) c17
  rw [nI_clamp (show c < 2 ^ 31 by omega), nI_clamp (show m < 2 ^ 31 by omega)] at k
  refine wp_aload_n (pc := 23) (i := 0) dX7_spoil_23 rfl rfl ?_
  refine wp_cV0v (pc := 24) lk_X7_169 dX7_spoil_24 rfl rfl rfl (sp7_keepPast H.1 H.2.2.1 (fun h1 hA1 hR1 hf1 => ?_))
  rotate_left
  have z := RWup2 (v := min 20 (gT σ (10 + c) + m)) hR1 (show 10 + c < 56 by omega)
  rw [show 0 + 10 + c = 10 + c by omega] at z
  have hf2 : FA h1 (hs h1 90 (10 + c) (nI (min 20 (gT σ (10 + c) + m)))) := FA.row (by omega)
  have z2 : hs h1 90 (10 + c) (nI (min 20 (gT σ (10 + c) + m))) 90 (10 + c) = nI (min 20 (gT σ (10 + c) + m)) := hs_same _ _ _ _
  refine wp_aload_n (pc := 27) (i := 0) dX7_spoil_27 rfl rfl ?_
  refine wp_iconst (pc := 28) (v := nI 0) dX7_spoil_28 rfl ?_
  refine wp_iload_n (pc := 29) (i := 1) dX7_spoil_29 rfl rfl ?_
  refine wp_iload_n (pc := 30) (i := 2) dX7_spoil_30 rfl rfl ?_
  refine wp_cV3v (pc := 31) lk_X7_158 dX7_spoil_31 rfl rfl rfl (sp7_spoilsP hR1 hO (by omega) (by omega) (by omega) ?_)
  rotate_left
  rw [show 0 + 10 + c = 10 + c by omega]
  refine wp_aload_n (pc := 34) (i := 0) dX7_spoil_34 rfl rfl ?_
  refine wp_gfr (pc := 35) fk_X7_7 dX7_spoil_35 rfl rfl (by decide) ?_
  refine wp_bipush (pc := 38) (v := nI 10) dX7_spoil_38 rfl ?_
  refine wp_iload_n (pc := 40) (i := 1) dX7_spoil_40 rfl rfl ?_
  first | (with_reducible show WP _ _ _ _ _ _ (Value.int (nI _) :: Value.int (nI _) :: _) _; refine wp_iaddN (pc := 41) dX7_spoil_41 ?_) | refine wp_iadd (pc := 41) dX7_spoil_41 ?_
  first | (with_reducible show WP _ _ _ _ _ _ (Value.int (nI _) :: _) _; refine wp_ialdN (pc := 42) dX7_spoil_42 rfl (by omega) (by first | with_reducible assumption | with_reducible exact hs_same _ _ _ _ | rfl) ?_) | refine wp_iald (pc := 42) dX7_spoil_42 rfl (by assumption) rfl ?_
  refine wp_iret (pc := 43) dX7_spoil_43 rfl ?_
  rotate_left
  exact k _ (H.acts z (hA1.row (by omega)) (by rw [up_ne (by omega)]) (hf1.tr hf2)) (hf1.tr hf2).ds
end RACTS
