section RTRIED
variable {G : Gt} {d : Nat} {h : Hp} {T : Tn}
theorem sp7_copyTown {a b : Nat} {K : Hp → Prop} (hR : RW h a T) (ha : a + 56 ≤ 1568) (hb : b + 56 ≤ 1568) (hab : a + 56 ≤ b ∨ b + 56 ≤ a) (k : ∀ h', RW h' b T → FB h h' b → K h') : Call G d mX7_copyTown [.ref 89, .int (nI a), .int (nI b)] h (pV K) := by
  have loop : ∀ m i h1, i + m = 56 → FB h h1 b → (∀ j, j < i → h1 90 (b + j) = nI (T j)) → WP G d mX7_copyTown (pV K) 2 [some (.ref 89), some (.int (nI a)), some (.int (nI b)), some (.int (nI i))] [] h1 := by
    intro m
    induction m with
    | zero =>
      intro i h1 him hF hq
      refine wp_iload_n (pc := 2) (i := 3) dX7_copyTown_2 rfl rfl ?_
      refine wp_bipush (pc := 3) (v := nI 56) dX7_copyTown_3 rfl ?_
      first | (with_reducible show WP _ _ _ _ _ _ (Value.int (nI _) :: Value.int (nI _) :: _) _; refine wp_icmp_geN (pc := 5) (tgt := 30) dX7_copyTown_5 (by decide) (by omega) (by omega) (fun c5 => ?_) (fun c5 => ?_)) | refine wp_icmp_ge (pc := 5) (tgt := 30) dX7_copyTown_5 (by decide) (fun c5 => ?_) (fun c5 => ?_)
      refine wp_vret (pc := 30) dX7_copyTown_30 rfl ?_
      rotate_left
      rotate_left
      · exact k h1 (fun j hj => hq j (by omega)) hF
      · exact absurd him (by omega)
    | succ m ih =>
      intro i h1 him hF hq
      have z : h1 90 (a + i) = nI (T i) := by rw [hF.2 _ (by omega)]; exact hR i (by omega)
      refine wp_iload_n (pc := 2) (i := 3) dX7_copyTown_2 rfl rfl ?_
      refine wp_bipush (pc := 3) (v := nI 56) dX7_copyTown_3 rfl ?_
      first | (with_reducible show WP _ _ _ _ _ _ (Value.int (nI _) :: Value.int (nI _) :: _) _; refine wp_icmp_geN (pc := 5) (tgt := 30) dX7_copyTown_5 (by decide) (by omega) (by omega) (fun c5 => ?_) (fun c5 => ?_)) | refine wp_icmp_ge (pc := 5) (tgt := 30) dX7_copyTown_5 (by decide) (fun c5 => ?_) (fun c5 => ?_)
      rotate_left
      refine wp_aload_n (pc := 8) (i := 0) dX7_copyTown_8 rfl rfl ?_
      refine wp_gfr (pc := 9) fk_X7_7 dX7_copyTown_9 rfl rfl (by decide) ?_
      refine wp_iload_n (pc := 12) (i := 2) dX7_copyTown_12 rfl rfl ?_
      refine wp_iload_n (pc := 13) (i := 3) dX7_copyTown_13 rfl rfl ?_
      first | (with_reducible show WP _ _ _ _ _ _ (Value.int (nI _) :: Value.int (nI _) :: _) _; refine wp_iaddN (pc := 14) dX7_copyTown_14 ?_) | refine wp_iadd (pc := 14) dX7_copyTown_14 ?_
      refine wp_aload_n (pc := 15) (i := 0) dX7_copyTown_15 rfl rfl ?_
      refine wp_gfr (pc := 16) fk_X7_7 dX7_copyTown_16 rfl rfl (by decide) ?_
      refine wp_iload_n (pc := 19) (i := 1) dX7_copyTown_19 rfl rfl ?_
      refine wp_iload_n (pc := 20) (i := 3) dX7_copyTown_20 rfl rfl ?_
      first | (with_reducible show WP _ _ _ _ _ _ (Value.int (nI _) :: Value.int (nI _) :: _) _; refine wp_iaddN (pc := 21) dX7_copyTown_21 ?_) | refine wp_iadd (pc := 21) dX7_copyTown_21 ?_
      first | (with_reducible show WP _ _ _ _ _ _ (Value.int (nI _) :: _) _; refine wp_ialdN (pc := 22) dX7_copyTown_22 rfl (by omega) (by first | with_reducible assumption | with_reducible exact hs_same _ _ _ _ | rfl) ?_) | refine wp_iald (pc := 22) dX7_copyTown_22 rfl (by assumption) rfl ?_
      first | (with_reducible show WP _ _ _ _ _ _ (_ :: Value.int (nI _) :: _) _; refine wp_iastN (pc := 23) dX7_copyTown_23 rfl (by omega) ?_) | refine wp_iast (pc := 23) dX7_copyTown_23 rfl (by assumption) rfl ?_
      first | refine wp_iincN (pc := 24) (i := 3) (n := 1) dX7_copyTown_24 rfl rfl (by decide) rfl ?_ | refine wp_iinc (pc := 24) (i := 3) dX7_copyTown_24 rfl rfl rfl (by decide) rfl ?_
      dsimp only [List.set_cons_zero, List.set_cons_succ]
      refine wp_goto (pc := 27) (tgt := 2) dX7_copyTown_27 (by decide) ?_
      rotate_left
      · exact absurd him (by omega)
      · refine ih (i + 1) _ (by omega) (hF.hs (by omega) (by omega)) (fun j hj => ?_)
        by_cases w : j = i
        · subst w; rw [hs_same]
        · rw [hs_ix (by omega)]; exact hq j (by omega)
  refine Call.of (M := mX7_copyTown) (n := 1) (by decide +kernel) rfl ?_
  show WP _ _ _ _ 0 [some (.ref 89), some (.int (nI a)), some (.int (nI b)), none] [] _
  refine wp_iconst (pc := 0) (v := nI 0) dX7_copyTown_0 rfl ?_
  refine wp_istore_n (pc := 1) (i := 3) dX7_copyTown_1 rfl rfl (by decide) rfl ?_
  dsimp only [List.set_cons_zero, List.set_cons_succ]
  rotate_left
  exact loop 56 0 h (by omega) (FB.rf h b) (fun j hj => absurd hj (by omega))
theorem inG_eq {x : Int32} {n : Nat} (hn : n ≤ 100) : decide ((lN 0).toInt ≤ x.toInt64.toInt ∧ x.toInt64.toInt ≤ (nI n - nI 1).toInt64.toInt) = inN x n := by
  rw [tI64, tI64, lN_toInt (by decide), pk_sub_toInt (by omega) (by decide)]
  exact decide_eq_decide.mpr (by omega)
theorem sp7_isChild {x : Int32} {K : Int32 → Hp → Prop} (hR : RW h 0 T) (hO : OKT T) (k : K (bI (inN x (T 0))) h) : Call G (d + 1) mX7_isChild [.ref 89, .int x] h (pI K) := by
  have z : h 90 0 = nI (T 0) := hR 0 (by omega)
  have o0 := hO.1
  rw [← inG_eq (by omega)] at k
  refine Call.of (M := mX7_isChild) (n := 0) (by decide +kernel) rfl ?_
  show WP _ _ _ _ 0 [some (.ref 89), some (.int x)] [] _
  refine wp_iload_n (pc := 0) (i := 1) dX7_isChild_0 rfl rfl ?_
  refine wp_i2l (pc := 1) dX7_isChild_1 rfl ?_
  refine wp_lconst (pc := 2) (v := lN 0) dX7_isChild_2 rfl ?_
  refine wp_aload_n (pc := 3) (i := 0) dX7_isChild_3 rfl rfl ?_
  refine wp_gfr (pc := 4) fk_X7_7 dX7_isChild_4 rfl rfl (by decide) ?_
  refine wp_iconst (pc := 7) (v := nI 0) dX7_isChild_7 rfl ?_
  first | (with_reducible show WP _ _ _ _ _ _ (Value.int (nI _) :: _) _; refine wp_ialdN (pc := 8) dX7_isChild_8 rfl (by omega) (by first | with_reducible assumption | with_reducible exact hs_same _ _ _ _ | rfl) ?_) | refine wp_iald (pc := 8) dX7_isChild_8 rfl (by assumption) rfl ?_
  refine wp_iconst (pc := 9) (v := nI 1) dX7_isChild_9 rfl ?_
  rotate_left
  refine wp_isub (pc := 10) dX7_isChild_10 ?_
  refine wp_i2l (pc := 11) dX7_isChild_11 rfl ?_
  refine wp_cS3i (pc := 12) lk_X7_48 dX7_isChild_12 rfl (sp7_in ?_)
  refine wp_zret (pc := 15) dX7_isChild_15 rfl (by first | exact Or.inl rfl | exact Or.inr rfl | assumption | exact bI_01 _) ?_
  rotate_left
  exact k
theorem sp7_isGran {x : Int32} {K : Int32 → Hp → Prop} (hR : RW h 0 T) (hO : OKT T) (k : K (bI (inN x (T 1))) h) : Call G (d + 1) mX7_isGran [.ref 89, .int x] h (pI K) := by
  have z : h 90 1 = nI (T 1) := hR 1 (by omega)
  have o1 := hO.2.1
  rw [← inG_eq (by omega)] at k
  refine Call.of (M := mX7_isGran) (n := 0) (by decide +kernel) rfl ?_
  show WP _ _ _ _ 0 [some (.ref 89), some (.int x)] [] _
  refine wp_iload_n (pc := 0) (i := 1) dX7_isGran_0 rfl rfl ?_
  refine wp_i2l (pc := 1) dX7_isGran_1 rfl ?_
  refine wp_lconst (pc := 2) (v := lN 0) dX7_isGran_2 rfl ?_
  refine wp_aload_n (pc := 3) (i := 0) dX7_isGran_3 rfl rfl ?_
  refine wp_gfr (pc := 4) fk_X7_7 dX7_isGran_4 rfl rfl (by decide) ?_
  refine wp_iconst (pc := 7) (v := nI 1) dX7_isGran_7 rfl ?_
  first | (with_reducible show WP _ _ _ _ _ _ (Value.int (nI _) :: _) _; refine wp_ialdN (pc := 8) dX7_isGran_8 rfl (by omega) (by first | with_reducible assumption | with_reducible exact hs_same _ _ _ _ | rfl) ?_) | refine wp_iald (pc := 8) dX7_isGran_8 rfl (by assumption) rfl ?_
  refine wp_iconst (pc := 9) (v := nI 1) dX7_isGran_9 rfl ?_
  rotate_left
  refine wp_isub (pc := 10) dX7_isGran_10 ?_
  refine wp_i2l (pc := 11) dX7_isGran_11 rfl ?_
  refine wp_cS3i (pc := 12) lk_X7_48 dX7_isGran_12 rfl (sp7_in ?_)
  refine wp_zret (pc := 15) dX7_isGran_15 rfl (by first | exact Or.inl rfl | exact Or.inr rfl | assumption | exact bI_01 _) ?_
  rotate_left
  exact k
theorem sp7_areTwo {x y : Int32} {K : Int32 → Hp → Prop} (hR : RW h 0 T) (hO : OKT T) (k : K (bI (inN x (T 1) && inN y (T 1) && decide (x ≠ y))) h) : Call G (d + 2) mX7_areTwo [.ref 89, .int x, .int y] h (pI K) := by
  refine Call.of (M := mX7_areTwo) (n := 0) (by decide +kernel) rfl ?_
  show WP _ _ _ _ 0 [some (.ref 89), some (.int x), some (.int y)] [] _
  refine wp_aload_n (pc := 0) (i := 0) dX7_areTwo_0 rfl rfl ?_
  refine wp_iload_n (pc := 1) (i := 1) dX7_areTwo_1 rfl rfl ?_
  refine wp_cV1i (pc := 2) lk_X7_176 dX7_areTwo_2 rfl rfl rfl (sp7_isGran hR hO ?_)
  first | (with_reducible show WP _ _ _ _ _ _ (Value.int (bI _) :: _) _; refine wp_if_eqB (pc := 5) (tgt := 25) dX7_areTwo_5 (by decide) (fun c5 => ?_) (fun c5 => ?_)) | (with_reducible show WP _ _ _ _ _ _ (Value.int (nI _) :: _) _; refine wp_if_eqN (pc := 5) (tgt := 25) dX7_areTwo_5 (by decide) (by omega) (fun c5 => ?_) (fun c5 => ?_)) | refine wp_if_eq (pc := 5) (tgt := 25) dX7_areTwo_5 (by decide) (fun c5 => ?_) (fun c5 => ?_)
  refine wp_iconst (pc := 25) (v := nI 0) dX7_areTwo_25 rfl ?_
  refine wp_zret (pc := 26) dX7_areTwo_26 rfl (by first | exact Or.inl rfl | exact Or.inr rfl | assumption | exact bI_01 _) ?_
  rotate_left
  refine wp_aload_n (pc := 8) (i := 0) dX7_areTwo_8 rfl rfl ?_
  refine wp_iload_n (pc := 9) (i := 2) dX7_areTwo_9 rfl rfl ?_
  refine wp_cV1i (pc := 10) lk_X7_176 dX7_areTwo_10 rfl rfl rfl (sp7_isGran hR hO ?_)
  first | (with_reducible show WP _ _ _ _ _ _ (Value.int (bI _) :: _) _; refine wp_if_eqB (pc := 13) (tgt := 25) dX7_areTwo_13 (by decide) (fun c13 => ?_) (fun c13 => ?_)) | (with_reducible show WP _ _ _ _ _ _ (Value.int (nI _) :: _) _; refine wp_if_eqN (pc := 13) (tgt := 25) dX7_areTwo_13 (by decide) (by omega) (fun c13 => ?_) (fun c13 => ?_)) | refine wp_if_eq (pc := 13) (tgt := 25) dX7_areTwo_13 (by decide) (fun c13 => ?_) (fun c13 => ?_)
  refine wp_iconst (pc := 25) (v := nI 0) dX7_areTwo_25 rfl ?_
  refine wp_zret (pc := 26) dX7_areTwo_26 rfl (by first | exact Or.inl rfl | exact Or.inr rfl | assumption | exact bI_01 _) ?_
  rotate_left
  rotate_left
  · rw [c5] at k; exact k
  · rw [c5, c13] at k; exact k
  refine wp_iload_n (pc := 16) (i := 1) dX7_areTwo_16 rfl rfl ?_
  refine wp_iload_n (pc := 17) (i := 2) dX7_areTwo_17 rfl rfl ?_
  refine wp_icmp_eq (pc := 18) (tgt := 25) dX7_areTwo_18 (by decide) (fun c18 => ?_) (fun c18 => ?_)
  · refine wp_iconst (pc := 25) (v := nI 0) dX7_areTwo_25 rfl ?_
    refine wp_zret (pc := 26) dX7_areTwo_26 rfl (by first | exact Or.inl rfl | exact Or.inr rfl | assumption | exact bI_01 _) ?_
    rotate_left
    rw [c5, c13, decide_eq_false (fun q => q c18)] at k; exact k
  · refine wp_iconst (pc := 21) (v := nI 1) dX7_areTwo_21 rfl ?_
    refine wp_goto (pc := 22) (tgt := 26) dX7_areTwo_22 (by decide) ?_
    refine wp_zret (pc := 26) dX7_areTwo_26 rfl (by first | exact Or.inl rfl | exact Or.inr rfl | assumption | exact bI_01 _) ?_
    rotate_left
    rw [c5, c13, decide_eq_true c18] at k; exact k
theorem sp7_layTried {n : Nat} {K : Hp → Prop} (hR : RW h 0 T) (hO : OKT T) (h0 : 0 < T 1) (hn : n ≤ 60) (hd : T 4 + n ≤ 1200) (k : ∀ h', RW h' 1512 (itP T n) → FB h h' 1512 → K h') : Call G (d + 4) mX7_layTried [.ref 89, .int (nI n)] h (pV K) := by
  have loop : ∀ m i h1, i + m = n → FB h h1 1512 → RW h1 1512 (itP T i) → WP G (d + 4) mX7_layTried (pV K) 10 [some (.ref 89), some (.int (nI n)), some (.int (nI i))] [] h1 := by
    intro m
    induction m with
    | zero =>
      intro i h1 him hF hR1
      refine wp_iload_n (pc := 10) (i := 2) dX7_layTried_10 rfl rfl ?_
      refine wp_iload_n (pc := 11) (i := 1) dX7_layTried_11 rfl rfl ?_
      first | (with_reducible show WP _ _ _ _ _ _ (Value.int (nI _) :: Value.int (nI _) :: _) _; refine wp_icmp_geN (pc := 12) (tgt := 28) dX7_layTried_12 (by decide) (by omega) (by omega) (fun c12 => ?_) (fun c12 => ?_)) | refine wp_icmp_ge (pc := 12) (tgt := 28) dX7_layTried_12 (by decide) (fun c12 => ?_) (fun c12 => ?_)
      refine wp_vret (pc := 28) dX7_layTried_28 rfl ?_
      rotate_left
      rotate_left
      · rw [show i = n by omega] at hR1; exact k h1 hR1 hF
      · exact absurd him (by omega)
    | succ m ih =>
      intro i h1 him hF hR1
      obtain ⟨a, b, c⟩ := itP_keep hO h0 i (by omega)
      refine wp_iload_n (pc := 10) (i := 2) dX7_layTried_10 rfl rfl ?_
      refine wp_iload_n (pc := 11) (i := 1) dX7_layTried_11 rfl rfl ?_
      first | (with_reducible show WP _ _ _ _ _ _ (Value.int (nI _) :: Value.int (nI _) :: _) _; refine wp_icmp_geN (pc := 12) (tgt := 28) dX7_layTried_12 (by decide) (by omega) (by omega) (fun c12 => ?_) (fun c12 => ?_)) | refine wp_icmp_ge (pc := 12) (tgt := 28) dX7_layTried_12 (by decide) (fun c12 => ?_) (fun c12 => ?_)
      rotate_left
      refine wp_aload_n (pc := 15) (i := 0) dX7_layTried_15 rfl rfl ?_
      refine wp_sipush (pc := 16) (v := nI 1512) dX7_layTried_16 rfl ?_
      refine wp_cV1v (pc := 19) lk_X7_172 dX7_layTried_19 rfl rfl rfl (sp7_pass hR1 a (by decide) (by rw [c 1 (by omega)]; exact h0) (by omega) (fun h2 hR2 hF2 => ?_))
      first | refine wp_iincN (pc := 22) (i := 2) (n := 1) dX7_layTried_22 rfl rfl (by decide) rfl ?_ | refine wp_iinc (pc := 22) (i := 2) dX7_layTried_22 rfl rfl rfl (by decide) rfl ?_
      dsimp only [List.set_cons_zero, List.set_cons_succ]
      refine wp_goto (pc := 25) (tgt := 10) dX7_layTried_25 (by decide) ?_
      rotate_left
      · exact absurd him (by omega)
      · exact ih (i + 1) h2 (by omega) (hF.tr hF2) hR2
  refine Call.of (M := mX7_layTried) (n := 1) (by decide +kernel) rfl ?_
  show WP _ _ _ _ 0 [some (.ref 89), some (.int (nI n)), none] [] _
  refine wp_aload_n (pc := 0) (i := 0) dX7_layTried_0 rfl rfl ?_
  refine wp_iconst (pc := 1) (v := nI 0) dX7_layTried_1 rfl ?_
  refine wp_sipush (pc := 2) (v := nI 1512) dX7_layTried_2 rfl ?_
  refine wp_cV2v (pc := 5) lk_X7_132 dX7_layTried_5 rfl rfl rfl (sp7_copyTown hR (by decide) (by decide) (by decide) (fun h1 hR1 hF1 => ?_))
  refine wp_iconst (pc := 8) (v := nI 0) dX7_layTried_8 rfl ?_
  refine wp_istore_n (pc := 9) (i := 2) dX7_layTried_9 rfl rfl (by decide) rfl ?_
  dsimp only [List.set_cons_zero, List.set_cons_succ]
  rotate_left
  exact loop n 0 h1 (by omega) hF1 hR1
theorem FB.sr {h' : Hp} (x : FB h h' 1512) : SR h h' := ⟨fun a e => x.1 a (by omega), fun k e => x.2 k (by omega), fun k e => by rw [x.1 89 (by decide)]⟩
theorem RW.fb {h' : Hp} {a b : Nat} (hR : RW h a T) (x : FB h h' b) (hab : a + 56 ≤ b ∨ b + 56 ≤ a) : RW h' a T := hR.cg (fun k k1 k2 => x.2 k (by omega))
theorem sp7_allChildren {K : Int32 → Hp → Prop} (hR : RW h 0 T) (hO : OKT T) (k : K (nI (1 * 2 ^ T 0 - 1)) h) : Call G d mX7_allChildren [.ref 89] h (pI K) := by
  have z : h 90 0 = nI (T 0) := hR 0 (by omega)
  have o0 := hO.1
  have := pow5 o0
  refine Call.of (M := mX7_allChildren) (n := 0) (by decide +kernel) rfl ?_
  show WP _ _ _ _ 0 [some (.ref 89)] [] _
  refine wp_iconst (pc := 0) (v := nI 1) dX7_allChildren_0 rfl ?_
  refine wp_aload_n (pc := 1) (i := 0) dX7_allChildren_1 rfl rfl ?_
  refine wp_gfr (pc := 2) fk_X7_7 dX7_allChildren_2 rfl rfl (by decide) ?_
  refine wp_iconst (pc := 5) (v := nI 0) dX7_allChildren_5 rfl ?_
  first | (with_reducible show WP _ _ _ _ _ _ (Value.int (nI _) :: _) _; refine wp_ialdN (pc := 6) dX7_allChildren_6 rfl (by omega) (by first | with_reducible assumption | with_reducible exact hs_same _ _ _ _ | rfl) ?_) | refine wp_iald (pc := 6) dX7_allChildren_6 rfl (by assumption) rfl ?_
  first | (with_reducible show WP _ _ _ _ _ _ (Value.int (nI _) :: Value.int (nI _) :: _) _; refine wp_ishlN (pc := 7) dX7_allChildren_7 (by omega) ?_) | refine wp_ishl (pc := 7) dX7_allChildren_7 ?_
  refine wp_iconst (pc := 8) (v := nI 1) dX7_allChildren_8 rfl ?_
  first | (with_reducible show WP _ _ _ _ _ _ (Value.int (nI _) :: Value.int (nI _) :: _) _; refine wp_isubN (pc := 9) dX7_allChildren_9 (by omega) ?_) | refine wp_isub (pc := 9) dX7_allChildren_9 ?_
  refine wp_iret (pc := 10) dX7_allChildren_10 rfl ?_
  rotate_left
  exact k
/-- the first in the trial row is T, and the day is i behind -/
theorem sp7_wholeTried {c : Nat} {K : Int32 → Hp → Prop} (hR0 : RW h 1512 T) (hP : h 90 3 = nI (T 3)) (hO : OKT T) (hc : c < T 0) (h0 : 0 < T 1) (hd : T 4 + 61 ≤ 1200) (k : ∀ h', FB h h' 1512 → K (oI (whl T c 0 61)) h') : Call G (d + 4) mX7_wholeTried [.ref 89, .int (nI c)] h (pI K) := by
  obtain ⟨o0, o1, o2, o3, o4, o5, o6, o7, o8⟩ := id hO
  have pw := pow6 o3
  have loop : ∀ m i h1, i + m = 61 → FB h h1 1512 → RW h1 1512 (itP T i) → (whl T c 0 61 = whl T c i m) → WP G (d + 4) mX7_wholeTried (pI K) 2 [some (.ref 89), some (.int (nI c)), some (.int (nI i))] [] h1 := by
    intro m
    induction m with
    | zero =>
      intro i h1 him hF hR1 hw
      refine wp_iload_n (pc := 2) (i := 2) dX7_wholeTried_2 rfl rfl ?_
      refine wp_bipush (pc := 3) (v := nI 61) dX7_wholeTried_3 rfl ?_
      first | (with_reducible show WP _ _ _ _ _ _ (Value.int (nI _) :: Value.int (nI _) :: _) _; refine wp_icmp_geN (pc := 5) (tgt := 46) dX7_wholeTried_5 (by decide) (by omega) (by omega) (fun c5 => ?_) (fun c5 => ?_)) | refine wp_icmp_ge (pc := 5) (tgt := 46) dX7_wholeTried_5 (by decide) (fun c5 => ?_) (fun c5 => ?_)
      refine wp_ldc (pc := 46) kn_X7_144 dX7_wholeTried_46 ?_
      refine wp_iret (pc := 48) dX7_wholeTried_48 rfl ?_
      rotate_left
      rotate_left
      · rw [hw] at k; exact k h1 hF
      · exact absurd him (by omega)
    | succ m ih =>
      intro i h1 him hF hR1 hw
      obtain ⟨a, b, e⟩ := itP_keep hO h0 i (by omega)
      have z3 : h1 90 3 = nI (T 3) := by rw [hF.2 3 (by omega)]; exact hP
      have r7 := hR1 (15 + c) (by omega)
      rw [← Nat.add_assoc] at r7
      have r7 : h1 90 (1527 + c) = nI (itP T i (15 + c)) := r7
      have b7 := (a.2.2.2.2.2.2.1 c (by omega)).2.2
      refine wp_iload_n (pc := 2) (i := 2) dX7_wholeTried_2 rfl rfl ?_
      refine wp_bipush (pc := 3) (v := nI 61) dX7_wholeTried_3 rfl ?_
      first | (with_reducible show WP _ _ _ _ _ _ (Value.int (nI _) :: Value.int (nI _) :: _) _; refine wp_icmp_geN (pc := 5) (tgt := 46) dX7_wholeTried_5 (by decide) (by omega) (by omega) (fun c5 => ?_) (fun c5 => ?_)) | refine wp_icmp_ge (pc := 5) (tgt := 46) dX7_wholeTried_5 (by decide) (fun c5 => ?_) (fun c5 => ?_)
      rotate_left
      refine wp_aload_n (pc := 8) (i := 0) dX7_wholeTried_8 rfl rfl ?_
      refine wp_gfr (pc := 9) fk_X7_7 dX7_wholeTried_9 rfl rfl (by decide) ?_
      refine wp_sipush (pc := 12) (v := nI 1527) dX7_wholeTried_12 rfl ?_
      refine wp_iload_n (pc := 15) (i := 1) dX7_wholeTried_15 rfl rfl ?_
      first | (with_reducible show WP _ _ _ _ _ _ (Value.int (nI _) :: Value.int (nI _) :: _) _; refine wp_iaddN (pc := 16) dX7_wholeTried_16 ?_) | refine wp_iadd (pc := 16) dX7_wholeTried_16 ?_
      first | (with_reducible show WP _ _ _ _ _ _ (Value.int (nI _) :: _) _; refine wp_ialdN (pc := 17) dX7_wholeTried_17 rfl (by omega) (by first | with_reducible assumption | with_reducible exact hs_same _ _ _ _ | rfl) ?_) | refine wp_iald (pc := 17) dX7_wholeTried_17 rfl (by assumption) rfl ?_
      refine wp_iconst (pc := 18) (v := nI 1) dX7_wholeTried_18 rfl ?_
      refine wp_aload_n (pc := 19) (i := 0) dX7_wholeTried_19 rfl rfl ?_
      refine wp_gfr (pc := 20) fk_X7_7 dX7_wholeTried_20 rfl rfl (by decide) ?_
      refine wp_iconst (pc := 23) (v := nI 3) dX7_wholeTried_23 rfl ?_
      first | (with_reducible show WP _ _ _ _ _ _ (Value.int (nI _) :: _) _; refine wp_ialdN (pc := 24) dX7_wholeTried_24 rfl (by omega) (by first | with_reducible assumption | with_reducible exact hs_same _ _ _ _ | rfl) ?_) | refine wp_iald (pc := 24) dX7_wholeTried_24 rfl (by assumption) rfl ?_
      first | (with_reducible show WP _ _ _ _ _ _ (Value.int (nI _) :: Value.int (nI _) :: _) _; refine wp_ishlN (pc := 25) dX7_wholeTried_25 (by omega) ?_) | refine wp_ishl (pc := 25) dX7_wholeTried_25 ?_
      refine wp_iconst (pc := 26) (v := nI 1) dX7_wholeTried_26 rfl ?_
      first | (with_reducible show WP _ _ _ _ _ _ (Value.int (nI _) :: Value.int (nI _) :: _) _; refine wp_isubN (pc := 27) dX7_wholeTried_27 (by omega) ?_) | refine wp_isub (pc := 27) dX7_wholeTried_27 ?_
      first | (with_reducible show WP _ _ _ _ _ _ (Value.int (nI _) :: Value.int (nI _) :: _) _; refine wp_icmp_neN (pc := 28) (tgt := 33) dX7_wholeTried_28 (by decide) (by omega) (by omega) (fun c28 => ?_) (fun c28 => ?_)) | refine wp_icmp_ne (pc := 28) (tgt := 33) dX7_wholeTried_28 (by decide) (fun c28 => ?_) (fun c28 => ?_)
      refine wp_aload_n (pc := 33) (i := 0) dX7_wholeTried_33 rfl rfl ?_
      refine wp_sipush (pc := 34) (v := nI 1512) dX7_wholeTried_34 rfl ?_
      refine wp_cV1v (pc := 37) lk_X7_172 dX7_wholeTried_37 rfl rfl rfl (sp7_pass hR1 a (by decide) (by rw [e 1 (by omega)]; exact h0) (by omega) (fun h2 hR2 hF2 => ?_))
      first | refine wp_iincN (pc := 40) (i := 2) (n := 1) dX7_wholeTried_40 rfl rfl (by decide) rfl ?_ | refine wp_iinc (pc := 40) (i := 2) dX7_wholeTried_40 rfl rfl rfl (by decide) rfl ?_
      dsimp only [List.set_cons_zero, List.set_cons_succ]
      refine wp_goto (pc := 43) (tgt := 2) dX7_wholeTried_43 (by decide) ?_
      rotate_left
      refine wp_iload_n (pc := 31) (i := 2) dX7_wholeTried_31 rfl rfl ?_
      refine wp_iret (pc := 32) dX7_wholeTried_32 rfl ?_
      rotate_left
      · exact absurd c5 (by omega)
      · refine ih (i + 1) h2 (by omega) (hF.tr hF2) hR2 ?_
        rw [hw, whl, if_neg c28]
      · rw [hw, whl, if_pos c28] at k; exact k h1 hF
  refine Call.of (M := mX7_wholeTried) (n := 1) (by decide +kernel) rfl ?_
  show WP _ _ _ _ 0 [some (.ref 89), some (.int (nI c)), none] [] _
  refine wp_iconst (pc := 0) (v := nI 0) dX7_wholeTried_0 rfl ?_
  refine wp_istore_n (pc := 1) (i := 2) dX7_wholeTried_1 rfl rfl (by decide) rfl ?_
  dsimp only [List.set_cons_zero, List.set_cons_succ]
  rotate_left
  exact loop 61 0 h (by omega) (FB.rf h _) hR0 rfl
/-- later days, told ahead or lived through -/
theorem wt_it (hO : OKT T) (h0 : 0 < T 1) {g : Nat} (hg : g < T 1) : ∀ n, T 4 + n ≤ 1200 → itP T n (44 + g) = T (44 + g) - n ∧ wt (itP T n) 0 g = wt T n g := by
  intro n hn
  have key : ∀ n, T 4 + n ≤ 1200 → itP T n (44 + g) = T (44 + g) - n := by
    intro n
    induction n with
    | zero => intro _; rfl
    | succ n ih =>
      intro hn
      obtain ⟨a, b, c⟩ := itP_keep hO h0 n (by omega)
      have o0 := a.1
      have o1 := a.2.1
      have c1 := c 1 (by omega)
      have c0 := c 0 (by omega)
      show passT (itP T n) (44 + g) = _
      unfold passT
      rw [if_neg (by omega), if_neg (by omega), if_pos (by omega), ih (by omega)]
      omega
  obtain ⟨a, b, c⟩ := itP_keep hO h0 n hn
  have o1 := hO.2.1
  refine ⟨key n hn, ?_⟩
  unfold wt hst
  rw [key n hn, b, c 0 (by omega), c (32 + g) (by omega), c (38 + g) (by omega)]
  by_cases q : n < T (44 + g)
  · rw [if_pos q, if_pos (by omega)]
  · rw [if_neg q, if_neg (by omega), Nat.add_zero]
theorem gu_it (hO : OKT T) (h0 : 0 < T 1) {n : Nat} (hn : T 4 + n ≤ 1200) (c : Nat) : ∀ k, k ≤ T 1 → gu (itP T n) 0 k c = gu T n k c
  | 0, _ => rfl
  | k + 1, hk => by unfold gu; rw [gu_it hO h0 hn c k (by omega), (wt_it hO h0 (by omega) n hn).2]
theorem br_it (hO : OKT T) (h0 : 0 < T 1) {n g : Nat} (hn : T 4 + n ≤ 1200) (hg : g < T 1) : br (itP T n) 0 g = br T n g := by
  obtain ⟨a, b, c⟩ := itP_keep hO h0 n hn
  have o1 := hO.2.1
  unfold br
  rw [(wt_it hO h0 hg n hn).2, c 1 (by omega), c (50 + g) (by omega)]
  cases wt T n g with
  | none => rfl
  | some q => simp only [gu_it hO h0 hn q (T 1) (Nat.le_refl _)]
theorem hst_it (hO : OKT T) (h0 : 0 < T 1) {n g : Nat} (hn : T 4 + n ≤ 1200) (hg : g < T 1) : hst (itP T n) 0 g = hst T n g := by
  obtain ⟨a, b, c⟩ := itP_keep hO h0 n hn
  have o1 := hO.2.1
  unfold hst
  rw [b, c 0 (by omega), c (32 + g) (by omega), c (38 + g) (by omega), Nat.add_zero]
theorem sv_it (hO : OKT T) (h0 : 0 < T 1) {n : Nat} (hn : T 4 + n ≤ 1200) : ∀ k, k ≤ T 1 → sv (itP T n) 0 k = sv T n k
  | 0, _ => rfl
  | k + 1, hk => by unfold sv; rw [sv_it hO h0 hn k (by omega), br_it hO h0 hn (by omega), hst_it hO h0 hn (by omega)]
theorem lz_it (hO : OKT T) (h0 : 0 < T 1) {n g : Nat} (hn : T 4 + n ≤ 1200) (hg : g < T 1) : lz (itP T n) g (itP T n 1) = ((wt T n g).isSome && !br T n g) := by
  rw [lz_br, (wt_it hO h0 hg n hn).2, br_it hO h0 hn hg]
theorem sp7_visitedTried {n : Nat} {K : Int32 → Hp → Prop} (hR0 : RW h 1512 T) (hP : h 90 1 = nI (T 1)) (hO : OKT T) (h0 : 0 < T 1) (hn : n ≤ 60) (hd : T 4 + 61 ≤ 1200) (k : ∀ h', FB h h' 1512 → K (nI (svs T n)) h') : Call G (d + 4) mX7_visitedTried [.ref 89, .int (nI n)] h (pI K) := by
  obtain ⟨o0, o1, o2, o3, o4, o5, o6, o7, o8⟩ := id hO
  have loop1 : ∀ m i h1, i + m = n → FB h h1 1512 → RW h1 1512 (itP T i) → ∀ L4 L5, WP G (d + 4) mX7_visitedTried (pI K) 4 [some (.ref 89), some (.int (nI n)), some (.int (nI (svs T i))), some (.int (nI i)), L4, L5] [] h1 := by
    intro m
    induction m with
    | zero =>
      intro i h1 him hF hR1 L4 L5
      refine wp_iload_n (pc := 4) (i := 3) dX7_visitedTried_4 rfl rfl ?_
      refine wp_iload_n (pc := 5) (i := 1) dX7_visitedTried_5 rfl rfl ?_
      first | (with_reducible show WP _ _ _ _ _ _ (Value.int (nI _) :: Value.int (nI _) :: _) _; refine wp_icmp_geN (pc := 6) (tgt := 83) dX7_visitedTried_6 (by decide) (by omega) (by omega) (fun c6 => ?_) (fun c6 => ?_)) | refine wp_icmp_ge (pc := 6) (tgt := 83) dX7_visitedTried_6 (by decide) (fun c6 => ?_) (fun c6 => ?_)
      refine wp_iload_n (pc := 83) (i := 2) dX7_visitedTried_83 rfl rfl ?_
      refine wp_iret (pc := 84) dX7_visitedTried_84 rfl ?_
      rotate_left
      rotate_left
      · rw [show i = n by omega]; exact k h1 hF
      · exact absurd him (by omega)
    | succ m ih =>
      intro i h1 him hF hR1 L4 L5
      obtain ⟨a, b, e⟩ := itP_keep hO h0 i (by omega)
      have e1 := e 1 (by omega)
      have z1 : h1 90 1 = nI (T 1) := by rw [hF.2 1 (by omega)]; exact hP
      have p0 := o5 h0
      have loop2 : ∀ m2 g, g + m2 = T 1 → ∀ L5, WP G (d + 4) mX7_visitedTried (pI K) 12 [some (.ref 89), some (.int (nI n)), some (.int (nI (svs T i ||| sv T i g))), some (.int (nI i)), some (.int (nI g)), L5] [] h1 := by
        intro m2
        induction m2 with
        | zero =>
          intro g hgm L5
          refine wp_iload (pc := 12) (i := 4) dX7_visitedTried_12 rfl ?_
          refine wp_aload_n (pc := 14) (i := 0) dX7_visitedTried_14 rfl rfl ?_
          refine wp_gfr (pc := 15) fk_X7_7 dX7_visitedTried_15 rfl rfl (by decide) ?_
          refine wp_iconst (pc := 18) (v := nI 1) dX7_visitedTried_18 rfl ?_
          first | (with_reducible show WP _ _ _ _ _ _ (Value.int (nI _) :: _) _; refine wp_ialdN (pc := 19) dX7_visitedTried_19 rfl (by omega) (by first | with_reducible assumption | with_reducible exact hs_same _ _ _ _ | rfl) ?_) | refine wp_iald (pc := 19) dX7_visitedTried_19 rfl (by assumption) rfl ?_
          first | (with_reducible show WP _ _ _ _ _ _ (Value.int (nI _) :: Value.int (nI _) :: _) _; refine wp_icmp_geN (pc := 20) (tgt := 70) dX7_visitedTried_20 (by decide) (by omega) (by omega) (fun c20 => ?_) (fun c20 => ?_)) | refine wp_icmp_ge (pc := 20) (tgt := 70) dX7_visitedTried_20 (by decide) (fun c20 => ?_) (fun c20 => ?_)
          refine wp_aload_n (pc := 70) (i := 0) dX7_visitedTried_70 rfl rfl ?_
          refine wp_sipush (pc := 71) (v := nI 1512) dX7_visitedTried_71 rfl ?_
          refine wp_cV1v (pc := 74) lk_X7_172 dX7_visitedTried_74 rfl rfl rfl (sp7_pass hR1 a (by decide) (by omega) (by omega) (fun h2 hR2 hF2 => ?_))
          first | refine wp_iincN (pc := 77) (i := 3) (n := 1) dX7_visitedTried_77 rfl rfl (by decide) rfl ?_ | refine wp_iinc (pc := 77) (i := 3) dX7_visitedTried_77 rfl rfl rfl (by decide) rfl ?_
          dsimp only [List.set_cons_zero, List.set_cons_succ]
          refine wp_goto (pc := 80) (tgt := 4) dX7_visitedTried_80 (by decide) ?_
          rotate_left
          rotate_left
          · rw [show g = T 1 by omega]
            exact ih (i + 1) h2 (by omega) (hF.tr hF2) hR2 _ _
          · exact absurd hgm (by omega)
        | succ m2 ih2 =>
          intro g hgm L5
          have hg1 : g < itP T i 1 := by omega
          have hw0 := (wt_it hO h0 (show g < T 1 by omega) i (by omega)).2
          have hl0 := lz_it hO h0 (show T 4 + i ≤ 1200 by omega) (show g < T 1 by omega)
          have hh := ih2 (g + 1) (by omega)
          rcases hw : wt T i g with _ | c
          · rw [hw] at hw0
            rw [sv_0 (br_none hw), Nat.or_zero] at hh
            refine wp_iload (pc := 12) (i := 4) dX7_visitedTried_12 rfl ?_
            refine wp_aload_n (pc := 14) (i := 0) dX7_visitedTried_14 rfl rfl ?_
            refine wp_gfr (pc := 15) fk_X7_7 dX7_visitedTried_15 rfl rfl (by decide) ?_
            refine wp_iconst (pc := 18) (v := nI 1) dX7_visitedTried_18 rfl ?_
            first | (with_reducible show WP _ _ _ _ _ _ (Value.int (nI _) :: _) _; refine wp_ialdN (pc := 19) dX7_visitedTried_19 rfl (by omega) (by first | with_reducible assumption | with_reducible exact hs_same _ _ _ _ | rfl) ?_) | refine wp_iald (pc := 19) dX7_visitedTried_19 rfl (by assumption) rfl ?_
            first | (with_reducible show WP _ _ _ _ _ _ (Value.int (nI _) :: Value.int (nI _) :: _) _; refine wp_icmp_geN (pc := 20) (tgt := 70) dX7_visitedTried_20 (by decide) (by omega) (by omega) (fun c20 => ?_) (fun c20 => ?_)) | refine wp_icmp_ge (pc := 20) (tgt := 70) dX7_visitedTried_20 (by decide) (fun c20 => ?_) (fun c20 => ?_)
            rotate_left
            refine wp_aload_n (pc := 23) (i := 0) dX7_visitedTried_23 rfl rfl ?_
            refine wp_sipush (pc := 24) (v := nI 1512) dX7_visitedTried_24 rfl ?_
            refine wp_iload (pc := 27) (i := 4) dX7_visitedTried_27 rfl ?_
            refine wp_cV2i (pc := 29) lk_X7_145 dX7_visitedTried_29 rfl rfl rfl (sp7_withOf hR1 a (by decide) hg1 hw0 ?_)
            refine wp_istore (pc := 32) (i := 5) dX7_visitedTried_32 rfl (by decide) rfl ?_
            dsimp only [List.set_cons_zero, List.set_cons_succ]
            refine wp_iload_n (pc := 34) (i := 2) dX7_visitedTried_34 rfl rfl ?_
            refine wp_iload (pc := 35) (i := 5) dX7_visitedTried_35 rfl ?_
            refine wp_ldc (pc := 37) kn_X7_144 dX7_visitedTried_37 ?_
            first | (with_reducible show WP _ _ _ _ _ _ (Value.int (nI _) :: Value.int (nI _) :: _) _; refine wp_icmp_eqN (pc := 39) (tgt := 54) dX7_visitedTried_39 (by decide) (by omega) (by omega) (fun c39 => ?_) (fun c39 => ?_)) | refine wp_icmp_eq (pc := 39) (tgt := 54) dX7_visitedTried_39 (by decide) (fun c39 => ?_) (fun c39 => ?_)
            refine wp_iconst (pc := 54) (v := nI 0) dX7_visitedTried_54 rfl ?_
            refine wp_goto (pc := 55) (tgt := 62) dX7_visitedTried_55 (by decide) ?_
            first | (with_reducible show WP _ _ _ _ _ _ (Value.int (nI _) :: Value.int (nI _) :: _) _; refine wp_iorN (pc := 62) dX7_visitedTried_62 ?_) | refine wp_ior (pc := 62) dX7_visitedTried_62 ?_
            refine wp_istore_n (pc := 63) (i := 2) dX7_visitedTried_63 rfl rfl (by decide) rfl ?_
            dsimp only [List.set_cons_zero, List.set_cons_succ]
            first | refine wp_iincN (pc := 64) (i := 4) (n := 1) dX7_visitedTried_64 rfl rfl (by decide) rfl ?_ | refine wp_iinc (pc := 64) (i := 4) dX7_visitedTried_64 rfl rfl rfl (by decide) rfl ?_
            dsimp only [List.set_cons_zero, List.set_cons_succ]
            refine wp_goto (pc := 67) (tgt := 12) dX7_visitedTried_67 (by decide) ?_
            rotate_left
            rotate_left
            · exact absurd c20 (by omega)
            · rw [Nat.or_zero]; exact hh _
            · exact absurd rfl c39
          · have hc := wt_lt p0.1 hw
            rw [hw] at hw0 hl0
            rcases hb : br T i g with _ | _
            · rw [hb] at hl0
              rw [sv_0 hb, Nat.or_zero] at hh
              refine wp_iload (pc := 12) (i := 4) dX7_visitedTried_12 rfl ?_
              refine wp_aload_n (pc := 14) (i := 0) dX7_visitedTried_14 rfl rfl ?_
              refine wp_gfr (pc := 15) fk_X7_7 dX7_visitedTried_15 rfl rfl (by decide) ?_
              refine wp_iconst (pc := 18) (v := nI 1) dX7_visitedTried_18 rfl ?_
              first | (with_reducible show WP _ _ _ _ _ _ (Value.int (nI _) :: _) _; refine wp_ialdN (pc := 19) dX7_visitedTried_19 rfl (by omega) (by first | with_reducible assumption | with_reducible exact hs_same _ _ _ _ | rfl) ?_) | refine wp_iald (pc := 19) dX7_visitedTried_19 rfl (by assumption) rfl ?_
              first | (with_reducible show WP _ _ _ _ _ _ (Value.int (nI _) :: Value.int (nI _) :: _) _; refine wp_icmp_geN (pc := 20) (tgt := 70) dX7_visitedTried_20 (by decide) (by omega) (by omega) (fun c20 => ?_) (fun c20 => ?_)) | refine wp_icmp_ge (pc := 20) (tgt := 70) dX7_visitedTried_20 (by decide) (fun c20 => ?_) (fun c20 => ?_)
              rotate_left
              refine wp_aload_n (pc := 23) (i := 0) dX7_visitedTried_23 rfl rfl ?_
              refine wp_sipush (pc := 24) (v := nI 1512) dX7_visitedTried_24 rfl ?_
              refine wp_iload (pc := 27) (i := 4) dX7_visitedTried_27 rfl ?_
              refine wp_cV2i (pc := 29) lk_X7_145 dX7_visitedTried_29 rfl rfl rfl (sp7_withOf hR1 a (by decide) hg1 hw0 ?_)
              refine wp_istore (pc := 32) (i := 5) dX7_visitedTried_32 rfl (by decide) rfl ?_
              dsimp only [List.set_cons_zero, List.set_cons_succ]
              refine wp_iload_n (pc := 34) (i := 2) dX7_visitedTried_34 rfl rfl ?_
              refine wp_iload (pc := 35) (i := 5) dX7_visitedTried_35 rfl ?_
              refine wp_ldc (pc := 37) kn_X7_144 dX7_visitedTried_37 ?_
              first | (with_reducible show WP _ _ _ _ _ _ (Value.int (nI _) :: Value.int (nI _) :: _) _; refine wp_icmp_eqN (pc := 39) (tgt := 54) dX7_visitedTried_39 (by decide) (by omega) (by omega) (fun c39 => ?_) (fun c39 => ?_)) | refine wp_icmp_eq (pc := 39) (tgt := 54) dX7_visitedTried_39 (by decide) (fun c39 => ?_) (fun c39 => ?_)
              refine wp_iconst (pc := 54) (v := nI 0) dX7_visitedTried_54 rfl ?_
              refine wp_goto (pc := 55) (tgt := 62) dX7_visitedTried_55 (by decide) ?_
              first | (with_reducible show WP _ _ _ _ _ _ (Value.int (nI _) :: Value.int (nI _) :: _) _; refine wp_iorN (pc := 62) dX7_visitedTried_62 ?_) | refine wp_ior (pc := 62) dX7_visitedTried_62 ?_
              refine wp_istore_n (pc := 63) (i := 2) dX7_visitedTried_63 rfl rfl (by decide) rfl ?_
              dsimp only [List.set_cons_zero, List.set_cons_succ]
              first | refine wp_iincN (pc := 64) (i := 4) (n := 1) dX7_visitedTried_64 rfl rfl (by decide) rfl ?_ | refine wp_iinc (pc := 64) (i := 4) dX7_visitedTried_64 rfl rfl rfl (by decide) rfl ?_
              dsimp only [List.set_cons_zero, List.set_cons_succ]
              refine wp_goto (pc := 67) (tgt := 12) dX7_visitedTried_67 (by decide) ?_
              rotate_left
              refine wp_aload_n (pc := 42) (i := 0) dX7_visitedTried_42 rfl rfl ?_
              refine wp_sipush (pc := 43) (v := nI 1512) dX7_visitedTried_43 rfl ?_
              refine wp_iload (pc := 46) (i := 4) dX7_visitedTried_46 rfl ?_
              refine wp_cV2i (pc := 48) lk_X7_161 dX7_visitedTried_48 rfl rfl rfl (sp7_isLost hR1 a (by decide) hg1 hl0 ?_)
              first | (with_reducible show WP _ _ _ _ _ _ (Value.int (bI _) :: _) _; refine wp_if_eqB (pc := 51) (tgt := 58) dX7_visitedTried_51 (by decide) (fun c51 => ?_) (fun c51 => ?_)) | (with_reducible show WP _ _ _ _ _ _ (Value.int (nI _) :: _) _; refine wp_if_eqN (pc := 51) (tgt := 58) dX7_visitedTried_51 (by decide) (by omega) (fun c51 => ?_) (fun c51 => ?_)) | refine wp_if_eq (pc := 51) (tgt := 58) dX7_visitedTried_51 (by decide) (fun c51 => ?_) (fun c51 => ?_)
              rotate_left
              refine wp_iconst (pc := 54) (v := nI 0) dX7_visitedTried_54 rfl ?_
              refine wp_goto (pc := 55) (tgt := 62) dX7_visitedTried_55 (by decide) ?_
              first | (with_reducible show WP _ _ _ _ _ _ (Value.int (nI _) :: Value.int (nI _) :: _) _; refine wp_iorN (pc := 62) dX7_visitedTried_62 ?_) | refine wp_ior (pc := 62) dX7_visitedTried_62 ?_
              refine wp_istore_n (pc := 63) (i := 2) dX7_visitedTried_63 rfl rfl (by decide) rfl ?_
              dsimp only [List.set_cons_zero, List.set_cons_succ]
              first | refine wp_iincN (pc := 64) (i := 4) (n := 1) dX7_visitedTried_64 rfl rfl (by decide) rfl ?_ | refine wp_iinc (pc := 64) (i := 4) dX7_visitedTried_64 rfl rfl rfl (by decide) rfl ?_
              dsimp only [List.set_cons_zero, List.set_cons_succ]
              refine wp_goto (pc := 67) (tgt := 12) dX7_visitedTried_67 (by decide) ?_
              rotate_left
              · exact absurd c20 (by omega)
              · exact absurd c39 (nI_none (by omega))
              · cases c51
              · rw [Nat.or_zero]; exact hh _
            · rw [hb] at hl0
              rw [sv_1 hw hb, ← Nat.or_assoc] at hh
              refine wp_iload (pc := 12) (i := 4) dX7_visitedTried_12 rfl ?_
              refine wp_aload_n (pc := 14) (i := 0) dX7_visitedTried_14 rfl rfl ?_
              refine wp_gfr (pc := 15) fk_X7_7 dX7_visitedTried_15 rfl rfl (by decide) ?_
              refine wp_iconst (pc := 18) (v := nI 1) dX7_visitedTried_18 rfl ?_
              first | (with_reducible show WP _ _ _ _ _ _ (Value.int (nI _) :: _) _; refine wp_ialdN (pc := 19) dX7_visitedTried_19 rfl (by omega) (by first | with_reducible assumption | with_reducible exact hs_same _ _ _ _ | rfl) ?_) | refine wp_iald (pc := 19) dX7_visitedTried_19 rfl (by assumption) rfl ?_
              first | (with_reducible show WP _ _ _ _ _ _ (Value.int (nI _) :: Value.int (nI _) :: _) _; refine wp_icmp_geN (pc := 20) (tgt := 70) dX7_visitedTried_20 (by decide) (by omega) (by omega) (fun c20 => ?_) (fun c20 => ?_)) | refine wp_icmp_ge (pc := 20) (tgt := 70) dX7_visitedTried_20 (by decide) (fun c20 => ?_) (fun c20 => ?_)
              rotate_left
              refine wp_aload_n (pc := 23) (i := 0) dX7_visitedTried_23 rfl rfl ?_
              refine wp_sipush (pc := 24) (v := nI 1512) dX7_visitedTried_24 rfl ?_
              refine wp_iload (pc := 27) (i := 4) dX7_visitedTried_27 rfl ?_
              refine wp_cV2i (pc := 29) lk_X7_145 dX7_visitedTried_29 rfl rfl rfl (sp7_withOf hR1 a (by decide) hg1 hw0 ?_)
              refine wp_istore (pc := 32) (i := 5) dX7_visitedTried_32 rfl (by decide) rfl ?_
              dsimp only [List.set_cons_zero, List.set_cons_succ]
              refine wp_iload_n (pc := 34) (i := 2) dX7_visitedTried_34 rfl rfl ?_
              refine wp_iload (pc := 35) (i := 5) dX7_visitedTried_35 rfl ?_
              rotate_left
              · exact absurd c20 (by omega)
              show WP _ _ _ _ 37 [_, _, _, _, _, some (.int (nI c))] [.int (nI c), _] _
              refine wp_ldc (pc := 37) kn_X7_144 dX7_visitedTried_37 ?_
              first | (with_reducible show WP _ _ _ _ _ _ (Value.int (nI _) :: Value.int (nI _) :: _) _; refine wp_icmp_eqN (pc := 39) (tgt := 54) dX7_visitedTried_39 (by decide) (by omega) (by omega) (fun c39 => ?_) (fun c39 => ?_)) | refine wp_icmp_eq (pc := 39) (tgt := 54) dX7_visitedTried_39 (by decide) (fun c39 => ?_) (fun c39 => ?_)
              rotate_left
              refine wp_aload_n (pc := 42) (i := 0) dX7_visitedTried_42 rfl rfl ?_
              refine wp_sipush (pc := 43) (v := nI 1512) dX7_visitedTried_43 rfl ?_
              refine wp_iload (pc := 46) (i := 4) dX7_visitedTried_46 rfl ?_
              refine wp_cV2i (pc := 48) lk_X7_161 dX7_visitedTried_48 rfl rfl rfl (sp7_isLost hR1 a (by decide) hg1 hl0 ?_)
              first | (with_reducible show WP _ _ _ _ _ _ (Value.int (bI _) :: _) _; refine wp_if_eqB (pc := 51) (tgt := 58) dX7_visitedTried_51 (by decide) (fun c51 => ?_) (fun c51 => ?_)) | (with_reducible show WP _ _ _ _ _ _ (Value.int (nI _) :: _) _; refine wp_if_eqN (pc := 51) (tgt := 58) dX7_visitedTried_51 (by decide) (by omega) (fun c51 => ?_) (fun c51 => ?_)) | refine wp_if_eq (pc := 51) (tgt := 58) dX7_visitedTried_51 (by decide) (fun c51 => ?_) (fun c51 => ?_)
              refine wp_iconst (pc := 58) (v := nI 1) dX7_visitedTried_58 rfl ?_
              refine wp_iload (pc := 59) (i := 5) dX7_visitedTried_59 rfl ?_
              first | (with_reducible show WP _ _ _ _ _ _ (Value.int (nI _) :: Value.int (nI _) :: _) _; refine wp_ishlN (pc := 61) dX7_visitedTried_61 (by omega) ?_) | refine wp_ishl (pc := 61) dX7_visitedTried_61 ?_
              first | (with_reducible show WP _ _ _ _ _ _ (Value.int (nI _) :: Value.int (nI _) :: _) _; refine wp_iorN (pc := 62) dX7_visitedTried_62 ?_) | refine wp_ior (pc := 62) dX7_visitedTried_62 ?_
              refine wp_istore_n (pc := 63) (i := 2) dX7_visitedTried_63 rfl rfl (by decide) rfl ?_
              dsimp only [List.set_cons_zero, List.set_cons_succ]
              first | refine wp_iincN (pc := 64) (i := 4) (n := 1) dX7_visitedTried_64 rfl rfl (by decide) rfl ?_ | refine wp_iinc (pc := 64) (i := 4) dX7_visitedTried_64 rfl rfl rfl (by decide) rfl ?_
              dsimp only [List.set_cons_zero, List.set_cons_succ]
              refine wp_goto (pc := 67) (tgt := 12) dX7_visitedTried_67 (by decide) ?_
              rotate_left
              rotate_left
              · exact absurd c39 (nI_none (by omega))
              · exact hh _
              · cases c51
      refine wp_iload_n (pc := 4) (i := 3) dX7_visitedTried_4 rfl rfl ?_
      refine wp_iload_n (pc := 5) (i := 1) dX7_visitedTried_5 rfl rfl ?_
      first | (with_reducible show WP _ _ _ _ _ _ (Value.int (nI _) :: Value.int (nI _) :: _) _; refine wp_icmp_geN (pc := 6) (tgt := 83) dX7_visitedTried_6 (by decide) (by omega) (by omega) (fun c6 => ?_) (fun c6 => ?_)) | refine wp_icmp_ge (pc := 6) (tgt := 83) dX7_visitedTried_6 (by decide) (fun c6 => ?_) (fun c6 => ?_)
      rotate_left
      refine wp_iconst (pc := 9) (v := nI 0) dX7_visitedTried_9 rfl ?_
      refine wp_istore (pc := 10) (i := 4) dX7_visitedTried_10 rfl (by decide) rfl ?_
      dsimp only [List.set_cons_zero, List.set_cons_succ]
      rotate_left
      · exact absurd him (by omega)
      · have := loop2 (T 1) 0 (by omega) L5
        rw [show svs T i ||| sv T i 0 = svs T i from Nat.or_zero _] at this
        exact this
  refine Call.of (M := mX7_visitedTried) (n := 4) (by decide +kernel) rfl ?_
  show WP _ _ _ _ 0 [some (.ref 89), some (.int (nI n)), none, none, none, none] [] _
  refine wp_iconst (pc := 0) (v := nI 0) dX7_visitedTried_0 rfl ?_
  refine wp_istore_n (pc := 1) (i := 2) dX7_visitedTried_1 rfl rfl (by decide) rfl ?_
  dsimp only [List.set_cons_zero, List.set_cons_succ]
  refine wp_iconst (pc := 2) (v := nI 0) dX7_visitedTried_2 rfl ?_
  refine wp_istore_n (pc := 3) (i := 3) dX7_visitedTried_3 rfl rfl (by decide) rfl ?_
  dsimp only [List.set_cons_zero, List.set_cons_succ]
  rotate_left
  exact loop1 n 0 h (by omega) (FB.rf h _) hR0 _ _
end RTRIED
