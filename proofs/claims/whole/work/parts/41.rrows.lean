section RROWS
variable {G : Gt} {d : Nat} {h : Hp} {σ : Sg}
theorem DS.st {h' : Hp} {v : Int32} {k : Nat} (r : DS h h') : DS h (hs h' 89 k v) := fun a ha => by rw [hs_ne (by omega)]; exact r a ha
theorem sr_row {x y z : Int32} {K : Int32 → Hp → Prop} (H : RI h σ) (hO : OKS σ) (k : ∀ h', RI h' (fRow σ x y z).2 → DS h h' → K (fRow σ x y z).1 h') : Call G (d + 2) mX7_row [.ref 89, .int x, .int y, .int z] h (pI K) := by
  have h40 : (nI 40).toInt = 40 := by decide
  refine Call.of (M := mX7_row) (n := 1) (by decide +kernel) rfl ?_
  show WP _ _ _ _ 0 [some (.ref 89), some (.int x), some (.int y), some (.int z), none] [] _
  refine wp_iload_n (pc := 0) (i := 1) dX7_row_0 rfl rfl ?_
  refine wp_cS1i (pc := 1) lk_X7_52 dX7_row_1 rfl (sp7_isRow ?_)
  first | (with_reducible show WP _ _ _ _ _ _ (Value.int (bI _) :: _) _; refine wp_if_eqB (pc := 4) (tgt := 25) dX7_row_4 (by decide) (fun c4 => ?_) (fun c4 => ?_)) | (with_reducible show WP _ _ _ _ _ _ (Value.int (nI _) :: _) _; refine wp_if_eqN (pc := 4) (tgt := 25) dX7_row_4 (by decide) (by omega) (fun c4 => ?_) (fun c4 => ?_)) | refine wp_if_eq (pc := 4) (tgt := 25) dX7_row_4 (by decide) (fun c4 => ?_) (fun c4 => ?_)
  refine wp_ldc (pc := 25) kn_X7_58 dX7_row_25 ?_
  refine wp_iret (pc := 27) dX7_row_27 rfl ?_
  rotate_left
  refine wp_iload_n (pc := 7) (i := 2) dX7_row_7 rfl rfl ?_
  first | (with_reducible show WP _ _ _ _ _ _ (Value.int (nI _) :: _) _; refine wp_i2lN (pc := 8) dX7_row_8 (by omega) ?_) | refine wp_i2l (pc := 8) dX7_row_8 rfl ?_
  refine wp_lconst (pc := 9) (v := lN 0) dX7_row_9 rfl ?_
  refine wp_ldc2 (pc := 10) kn_X7_56 dX7_row_10 ?_
  refine wp_cS3i (pc := 13) lk_X7_48 dX7_row_13 rfl (sp7_btw (by decide) (by decide) ?_)
  first | (with_reducible show WP _ _ _ _ _ _ (Value.int (bI _) :: _) _; refine wp_if_eqB (pc := 16) (tgt := 25) dX7_row_16 (by decide) (fun c16 => ?_) (fun c16 => ?_)) | (with_reducible show WP _ _ _ _ _ _ (Value.int (nI _) :: _) _; refine wp_if_eqN (pc := 16) (tgt := 25) dX7_row_16 (by decide) (by omega) (fun c16 => ?_) (fun c16 => ?_)) | refine wp_if_eq (pc := 16) (tgt := 25) dX7_row_16 (by decide) (fun c16 => ?_) (fun c16 => ?_)
  refine wp_ldc (pc := 25) kn_X7_58 dX7_row_25 ?_
  refine wp_iret (pc := 27) dX7_row_27 rfl ?_
  rotate_left
  rotate_left
  · rw [fRow, c4] at k; exact k h H DS.rf
  · rw [fRow, c4, c16] at k; exact k h H DS.rf
  refine wp_iload_n (pc := 19) (i := 3) dX7_row_19 rfl rfl ?_
  refine wp_bipush (pc := 20) (v := nI 40) dX7_row_20 rfl ?_
  refine wp_icmp_le (pc := 22) (tgt := 28) dX7_row_22 (by decide) (fun c19 => ?_) (fun c19 => ?_)
  · have c19 := Int32.le_iff_toInt_le.mp c19
    refine wp_iload_n (pc := 28) (i := 3) dX7_row_28 rfl rfl ?_
    refine wp_if_ge (pc := 29) (tgt := 38) dX7_row_29 (by decide) (fun c26 => ?_) (fun c26 => ?_)
    · have c26 := Int32.le_iff_toInt_le.mp c26
      have e0 : (0 : Int32).toInt = 0 := by decide
      rw [fRow, c4, c16, decide_eq_true (by omega)] at k
      obtain ⟨r, hr, rfl⟩ := inN_t (by decide) c4
      obtain ⟨l, -, hl, rfl⟩ := btw_t (by decide) c16
      obtain ⟨n, hn2, rfl⟩ := nI_of ((le0_iff z).mpr (by omega))
      rw [nI_toInt hn2] at c19
      rw [nI_toInt hn2, nI_clamp (by omega), nI_clamp (by omega), nI_clamp hn2] at k
      have loop : ∀ m i h1, i + m = 40 → h1 93 = upd (h 93) r (nI n) → h1 92 = upd (h 92) r (nI l) → (∀ j, j < i → h1 94 (40 * r + j) = nI 0) → (∀ q, q < 40 * r ∨ 40 * r + 40 ≤ q → h1 94 q = h 94 q) → (∀ a, a ≠ 92 → a ≠ 93 → a ≠ 94 → h1 a = h a) → WP G (d + 2) mX7_row (pI K) 55 [some (.ref 89), some (.int (nI r)), some (.int (nI l)), some (.int (nI n)), some (.int (nI i))] [] h1 := by
        intro m
        induction m with
        | zero =>
          intro i h1 him q1 q2 q3 q4 q5
          refine wp_iload (pc := 55) (i := 4) dX7_row_55 rfl ?_
          refine wp_bipush (pc := 57) (v := nI 40) dX7_row_57 rfl ?_
          first | (with_reducible show WP _ _ _ _ _ _ (Value.int (nI _) :: Value.int (nI _) :: _) _; refine wp_icmp_geN (pc := 59) (tgt := 81) dX7_row_59 (by decide) (by omega) (by omega) (fun c59 => ?_) (fun c59 => ?_)) | refine wp_icmp_ge (pc := 59) (tgt := 81) dX7_row_59 (by decide) (fun c59 => ?_) (fun c59 => ?_)
          refine wp_aload_n (pc := 81) (i := 0) dX7_row_81 rfl rfl ?_
          refine wp_iload_n (pc := 82) (i := 3) dX7_row_82 rfl rfl ?_
          refine wp_cV1i (pc := 83) lk_X7_63 dX7_row_83 rfl rfl rfl (sp7_well ?_)
          refine wp_iret (pc := 86) dX7_row_86 rfl ?_
          rotate_left
          rotate_left
          · refine k _ (RI.st (H.row hr (x := some (l, n, fun _ => nI 0)) ⟨?_, ?_, fun q (hq : q < n) => q3 q (by omega)⟩ hO.row q5 (fun q hq => ?_) (fun q hq => ?_) q4)) (DS.st (fun a ha => q5 a (by omega) (by omega) (by omega)))
            · rw [q1]; exact if_pos rfl
            · rw [q2]; exact if_pos rfl
            · rw [q2]; exact if_neg hq
            · rw [q1]; exact if_neg hq
          · exact absurd him (by omega)
        | succ m ih =>
          intro i h1 him q1 q2 q3 q4 q5
          refine wp_iload (pc := 55) (i := 4) dX7_row_55 rfl ?_
          refine wp_bipush (pc := 57) (v := nI 40) dX7_row_57 rfl ?_
          first | (with_reducible show WP _ _ _ _ _ _ (Value.int (nI _) :: Value.int (nI _) :: _) _; refine wp_icmp_geN (pc := 59) (tgt := 81) dX7_row_59 (by decide) (by omega) (by omega) (fun c59 => ?_) (fun c59 => ?_)) | refine wp_icmp_ge (pc := 59) (tgt := 81) dX7_row_59 (by decide) (fun c59 => ?_) (fun c59 => ?_)
          rotate_left
          refine wp_aload_n (pc := 62) (i := 0) dX7_row_62 rfl rfl ?_
          refine wp_gfr (pc := 63) fk_X7_23 dX7_row_63 rfl rfl (by decide) ?_
          refine wp_bipush (pc := 66) (v := nI 40) dX7_row_66 rfl ?_
          refine wp_iload_n (pc := 68) (i := 1) dX7_row_68 rfl rfl ?_
          first | (with_reducible show WP _ _ _ _ _ _ (Value.int (nI _) :: Value.int (nI _) :: _) _; refine wp_imulN (pc := 69) dX7_row_69 ?_) | refine wp_imul (pc := 69) dX7_row_69 ?_
          refine wp_iload (pc := 70) (i := 4) dX7_row_70 rfl ?_
          first | (with_reducible show WP _ _ _ _ _ _ (Value.int (nI _) :: Value.int (nI _) :: _) _; refine wp_iaddN (pc := 72) dX7_row_72 ?_) | refine wp_iadd (pc := 72) dX7_row_72 ?_
          refine wp_iconst (pc := 73) (v := nI 0) dX7_row_73 rfl ?_
          first | (with_reducible show WP _ _ _ _ _ _ (_ :: Value.int (nI _) :: _) _; refine wp_iastN (pc := 74) dX7_row_74 rfl (by omega) ?_) | refine wp_iast (pc := 74) dX7_row_74 rfl (by assumption) rfl ?_
          first | refine wp_iincN (pc := 75) (i := 4) (n := 1) dX7_row_75 rfl rfl (by decide) rfl ?_ | refine wp_iinc (pc := 75) (i := 4) dX7_row_75 rfl rfl rfl (by decide) rfl ?_
          dsimp only [List.set_cons_zero, List.set_cons_succ]
          refine wp_goto (pc := 78) (tgt := 55) dX7_row_78 (by decide) ?_
          rotate_left
          · exact absurd him (by omega)
          · refine ih (i + 1) _ (by omega) ?_ ?_ (fun j hj => ?_) (fun q hq => ?_) (fun a a1 a2 a3 => ?_)
            · rw [hs_ne (by omega)]; exact q1
            · rw [hs_ne (by omega)]; exact q2
            · by_cases w : j = i
              · subst w; rw [hs_same]
              · rw [hs_ix (by omega)]; exact q3 j (by omega)
            · rw [hs_ix (by omega)]; exact q4 q hq
            · rw [hs_ne a3]; exact q5 a a1 a2 a3
      refine wp_aload_n (pc := 38) (i := 0) dX7_row_38 rfl rfl ?_
      refine wp_gfr (pc := 39) fk_X7_17 dX7_row_39 rfl rfl (by decide) ?_
      refine wp_iload_n (pc := 42) (i := 1) dX7_row_42 rfl rfl ?_
      refine wp_iload_n (pc := 43) (i := 2) dX7_row_43 rfl rfl ?_
      first | (with_reducible show WP _ _ _ _ _ _ (_ :: Value.int (nI _) :: _) _; refine wp_iastN (pc := 44) dX7_row_44 rfl (by omega) ?_) | refine wp_iast (pc := 44) dX7_row_44 rfl (by assumption) rfl ?_
      refine wp_aload_n (pc := 45) (i := 0) dX7_row_45 rfl rfl ?_
      refine wp_gfr (pc := 46) fk_X7_20 dX7_row_46 rfl rfl (by decide) ?_
      refine wp_iload_n (pc := 49) (i := 1) dX7_row_49 rfl rfl ?_
      refine wp_iload_n (pc := 50) (i := 3) dX7_row_50 rfl rfl ?_
      first | (with_reducible show WP _ _ _ _ _ _ (_ :: Value.int (nI _) :: _) _; refine wp_iastN (pc := 51) dX7_row_51 rfl (by omega) ?_) | refine wp_iast (pc := 51) dX7_row_51 rfl (by assumption) rfl ?_
      refine wp_iconst (pc := 52) (v := nI 0) dX7_row_52 rfl ?_
      refine wp_istore (pc := 53) (i := 4) dX7_row_53 rfl (by decide) rfl ?_
      dsimp only [List.set_cons_zero, List.set_cons_succ]
      rotate_left
      refine loop 40 0 _ (by omega) ?_ ?_ (fun j hj => absurd hj (by omega)) (fun q hq => ?_) (fun a a1 a2 a3 => ?_)
      · rw [hs_at, hs_ne (by decide)]
      · rw [hs_ne (by decide), hs_at]
      · rw [hs_ne (by decide), hs_ne (by decide)]
      · rw [hs_ne a2, hs_ne a1]
    · have c26 := fun q => c26 (Int32.le_iff_toInt_le.mpr q)
      have e0 : (0 : Int32).toInt = 0 := by decide
      rw [fRow, c4, c16, decide_eq_true (by omega)] at k
      have c26 : z.toInt < 0 := by have := Int.not_le.mp c26; omega
      simp only [Bool.and_self, if_true, c26] at k
      refine wp_aload_n (pc := 32) (i := 0) dX7_row_32 rfl rfl ?_
      refine wp_iconst (pc := 33) (v := nI 4) dX7_row_33 rfl ?_
      refine wp_cV1i (pc := 34) lk_X7_59 dX7_row_34 rfl rfl rfl (sp7_find ?_)
      refine wp_iret (pc := 37) dX7_row_37 rfl ?_
      rotate_left
      exact k _ H.st (DS.rf.st)
  · have c19 := Int.not_le.mp (fun q => c19 (Int32.le_iff_toInt_le.mpr q))
    rw [fRow, c4, c16, decide_eq_false (by omega)] at k
    refine wp_ldc (pc := 25) kn_X7_58 dX7_row_25 ?_
    refine wp_iret (pc := 27) dX7_row_27 rfl ?_
    rotate_left
    exact k h H DS.rf
theorem m1_lt : kM1 < 0 := by decide
theorem sr_drop {x : Int32} {K : Int32 → Hp → Prop} (H : RI h σ) (hO : OKS σ) (k : ∀ h', RI h' (fDrop σ x).2 → DS h h' → K (fDrop σ x).1 h') : Call G (d + 2) mX7_drop [.ref 89, .int x] h (pI K) := by
  refine Call.of (M := mX7_drop) (n := 1) (by decide +kernel) rfl ?_
  show WP _ _ _ _ 0 [some (.ref 89), some (.int x), none] [] _
  refine wp_iload_n (pc := 0) (i := 1) dX7_drop_0 rfl rfl ?_
  refine wp_cS1i (pc := 1) lk_X7_52 dX7_drop_1 rfl (sp7_isRow ?_)
  first | (with_reducible show WP _ _ _ _ _ _ (Value.int (bI _) :: _) _; refine wp_if_neB (pc := 4) (tgt := 10) dX7_drop_4 (by decide) (fun c4 => ?_) (fun c4 => ?_)) | (with_reducible show WP _ _ _ _ _ _ (Value.int (nI _) :: _) _; refine wp_if_neN (pc := 4) (tgt := 10) dX7_drop_4 (by decide) (by omega) (fun c4 => ?_) (fun c4 => ?_)) | refine wp_if_ne (pc := 4) (tgt := 10) dX7_drop_4 (by decide) (fun c4 => ?_) (fun c4 => ?_)
  rotate_left
  refine wp_ldc (pc := 7) kn_X7_58 dX7_drop_7 ?_
  refine wp_iret (pc := 9) dX7_drop_9 rfl ?_
  rotate_left
  rotate_left
  · rw [fDrop, c4] at k; exact k h H DS.rf
  rw [fDrop, c4] at k
  obtain ⟨r, hr, rfl⟩ := inN_t (by decide) c4
  rw [nI_clamp (by omega)] at k
  have hx := H.2.2.2.2.1 r hr
  have ho := hO.row r
  cases hR : gR σ r with
  | none =>
    rw [hR] at hx k
    have e : h 93 r = kM1 := hx
    refine wp_aload_n (pc := 10) (i := 0) dX7_drop_10 rfl rfl ?_
    refine wp_gfr (pc := 11) fk_X7_20 dX7_drop_11 rfl rfl (by decide) ?_
    refine wp_iload_n (pc := 14) (i := 1) dX7_drop_14 rfl rfl ?_
    first | (with_reducible show WP _ _ _ _ _ _ (Value.int (nI _) :: _) _; refine wp_ialdN (pc := 15) dX7_drop_15 rfl (by omega) (by first | with_reducible assumption | with_reducible exact hs_same _ _ _ _ | rfl) ?_) | refine wp_iald (pc := 15) dX7_drop_15 rfl (by assumption) rfl ?_
    rotate_left
    refine wp_if_ge (pc := 16) (tgt := 25) dX7_drop_16 (by decide) (fun c16 => ?_) (fun c16 => ?_)
    · exact absurd c16 (by decide)
    refine wp_aload_n (pc := 19) (i := 0) dX7_drop_19 rfl rfl ?_
    refine wp_iconst (pc := 20) (v := nI 1) dX7_drop_20 rfl ?_
    refine wp_cV1i (pc := 21) lk_X7_59 dX7_drop_21 rfl rfl rfl (sp7_find ?_)
    refine wp_iret (pc := 24) dX7_drop_24 rfl ?_
    rotate_left
    exact k _ H.st (DS.rf.st)
  | some y =>
    rw [hR] at hx ho k
    have e : h 93 r = nI y.2.1 := hx.1
    have h40 := ho y rfl
    refine wp_aload_n (pc := 10) (i := 0) dX7_drop_10 rfl rfl ?_
    refine wp_gfr (pc := 11) fk_X7_20 dX7_drop_11 rfl rfl (by decide) ?_
    refine wp_iload_n (pc := 14) (i := 1) dX7_drop_14 rfl rfl ?_
    first | (with_reducible show WP _ _ _ _ _ _ (Value.int (nI _) :: _) _; refine wp_ialdN (pc := 15) dX7_drop_15 rfl (by omega) (by first | with_reducible assumption | with_reducible exact hs_same _ _ _ _ | rfl) ?_) | refine wp_iald (pc := 15) dX7_drop_15 rfl (by assumption) rfl ?_
    first | (with_reducible show WP _ _ _ _ _ _ (Value.int (nI _) :: _) _; refine wp_if_geN (pc := 16) (tgt := 25) dX7_drop_16 (by decide) (by omega) (fun c16 => ?_) (fun c16 => ?_)) | refine wp_if_ge (pc := 16) (tgt := 25) dX7_drop_16 (by decide) (fun c16 => ?_) (fun c16 => ?_)
    refine wp_aload_n (pc := 25) (i := 0) dX7_drop_25 rfl rfl ?_
    refine wp_gfr (pc := 26) fk_X7_20 dX7_drop_26 rfl rfl (by decide) ?_
    refine wp_iload_n (pc := 29) (i := 1) dX7_drop_29 rfl rfl ?_
    first | (with_reducible show WP _ _ _ _ _ _ (Value.int (nI _) :: _) _; refine wp_ialdN (pc := 30) dX7_drop_30 rfl (by omega) (by first | with_reducible assumption | with_reducible exact hs_same _ _ _ _ | rfl) ?_) | refine wp_iald (pc := 30) dX7_drop_30 rfl (by assumption) rfl ?_
    refine wp_istore_n (pc := 31) (i := 2) dX7_drop_31 rfl rfl (by decide) rfl ?_
    dsimp only [List.set_cons_zero, List.set_cons_succ]
    refine wp_aload_n (pc := 32) (i := 0) dX7_drop_32 rfl rfl ?_
    refine wp_gfr (pc := 33) fk_X7_20 dX7_drop_33 rfl rfl (by decide) ?_
    refine wp_iload_n (pc := 36) (i := 1) dX7_drop_36 rfl rfl ?_
    refine wp_iconst (pc := 37) (v := kM1) dX7_drop_37 rfl ?_
    first | (with_reducible show WP _ _ _ _ _ _ (_ :: Value.int (nI _) :: _) _; refine wp_iastN (pc := 38) dX7_drop_38 rfl (by omega) ?_) | refine wp_iast (pc := 38) dX7_drop_38 rfl (by assumption) rfl ?_
    refine wp_aload_n (pc := 39) (i := 0) dX7_drop_39 rfl rfl ?_
    refine wp_iload_n (pc := 40) (i := 2) dX7_drop_40 rfl rfl ?_
    refine wp_cV1i (pc := 41) lk_X7_63 dX7_drop_41 rfl rfl rfl (sp7_well ?_)
    refine wp_iret (pc := 44) dX7_drop_44 rfl ?_
    rotate_left
    rotate_left
    · refine k _ (RI.st (H.row hr (x := none) (hs_same _ _ _ _) hO.row (fun a a1 a2 a3 => hs_ne a2) (fun q hq => by rw [hs_ne (by decide)]) (fun q hq => hs_ix hq) (fun q hq => by rw [hs_ne (by decide)]))) (DS.st (fun a ha => hs_ne (by omega)))
    · exact absurd c16 (by omega)
theorem sr_set {x i v : Int32} {K : Int32 → Hp → Prop} (H : RI h σ) (hO : OKS σ) (k : ∀ h', RI h' (fSet σ x i v).2 → DS h h' → K (fSet σ x i v).1 h') : Call G (d + 2) mX7_set [.ref 89, .int x, .int i, .int v] h (pI K) := by
  refine Call.of (M := mX7_set) (n := 0) (by decide +kernel) rfl ?_
  show WP _ _ _ _ 0 [some (.ref 89), some (.int x), some (.int i), some (.int v)] [] _
  refine wp_iload_n (pc := 0) (i := 1) dX7_set_0 rfl rfl ?_
  refine wp_cS1i (pc := 1) lk_X7_52 dX7_set_1 rfl (sp7_isRow ?_)
  first | (with_reducible show WP _ _ _ _ _ _ (Value.int (bI _) :: _) _; refine wp_if_neB (pc := 4) (tgt := 10) dX7_set_4 (by decide) (fun c4 => ?_) (fun c4 => ?_)) | (with_reducible show WP _ _ _ _ _ _ (Value.int (nI _) :: _) _; refine wp_if_neN (pc := 4) (tgt := 10) dX7_set_4 (by decide) (by omega) (fun c4 => ?_) (fun c4 => ?_)) | refine wp_if_ne (pc := 4) (tgt := 10) dX7_set_4 (by decide) (fun c4 => ?_) (fun c4 => ?_)
  rotate_left
  refine wp_ldc (pc := 7) kn_X7_58 dX7_set_7 ?_
  refine wp_iret (pc := 9) dX7_set_9 rfl ?_
  rotate_left
  rotate_left
  · rw [fSet, c4] at k; exact k h H DS.rf
  rw [fSet, c4] at k
  obtain ⟨r, hr, rfl⟩ := inN_t (by decide) c4
  rw [nI_clamp (by omega)] at k
  have hx := H.2.2.2.2.1 r hr
  have ho := hO.2.2.2.1 r
  cases hR : gR σ r with
  | none =>
    rw [hR] at hx k
    have e : h 93 r = kM1 := hx
    refine wp_aload_n (pc := 10) (i := 0) dX7_set_10 rfl rfl ?_
    refine wp_gfr (pc := 11) fk_X7_20 dX7_set_11 rfl rfl (by decide) ?_
    refine wp_iload_n (pc := 14) (i := 1) dX7_set_14 rfl rfl ?_
    first | (with_reducible show WP _ _ _ _ _ _ (Value.int (nI _) :: _) _; refine wp_ialdN (pc := 15) dX7_set_15 rfl (by omega) (by first | with_reducible assumption | with_reducible exact hs_same _ _ _ _ | rfl) ?_) | refine wp_iald (pc := 15) dX7_set_15 rfl (by assumption) rfl ?_
    rotate_left
    refine wp_if_ge (pc := 16) (tgt := 25) dX7_set_16 (by decide) (fun c16 => ?_) (fun c16 => ?_)
    · exact absurd c16 (by decide)
    refine wp_aload_n (pc := 19) (i := 0) dX7_set_19 rfl rfl ?_
    refine wp_iconst (pc := 20) (v := nI 1) dX7_set_20 rfl ?_
    refine wp_cV1i (pc := 21) lk_X7_59 dX7_set_21 rfl rfl rfl (sp7_find ?_)
    refine wp_iret (pc := 24) dX7_set_24 rfl ?_
    rotate_left
    exact k _ H.st (DS.rf.st)
  | some y =>
    rw [hR] at hx ho k
    have e : h 93 r = nI y.2.1 := hx.1
    have el : h 92 r = nI y.1 := hx.2.1
    have h40 := (ho y rfl).2
    have hl3 := (ho y rfl).1
    refine wp_aload_n (pc := 10) (i := 0) dX7_set_10 rfl rfl ?_
    refine wp_gfr (pc := 11) fk_X7_20 dX7_set_11 rfl rfl (by decide) ?_
    refine wp_iload_n (pc := 14) (i := 1) dX7_set_14 rfl rfl ?_
    first | (with_reducible show WP _ _ _ _ _ _ (Value.int (nI _) :: _) _; refine wp_ialdN (pc := 15) dX7_set_15 rfl (by omega) (by first | with_reducible assumption | with_reducible exact hs_same _ _ _ _ | rfl) ?_) | refine wp_iald (pc := 15) dX7_set_15 rfl (by assumption) rfl ?_
    first | (with_reducible show WP _ _ _ _ _ _ (Value.int (nI _) :: _) _; refine wp_if_geN (pc := 16) (tgt := 25) dX7_set_16 (by decide) (by omega) (fun c16 => ?_) (fun c16 => ?_)) | refine wp_if_ge (pc := 16) (tgt := 25) dX7_set_16 (by decide) (fun c16 => ?_) (fun c16 => ?_)
    rotate_left
    rotate_left
    rotate_left
    · exact absurd c16 (by omega)
    refine wp_iload_n (pc := 25) (i := 2) dX7_set_25 rfl rfl ?_
    refine wp_i2l (pc := 26) dX7_set_26 rfl ?_
    refine wp_lconst (pc := 27) (v := lN 0) dX7_set_27 rfl ?_
    refine wp_aload_n (pc := 28) (i := 0) dX7_set_28 rfl rfl ?_
    refine wp_gfr (pc := 29) fk_X7_20 dX7_set_29 rfl rfl (by decide) ?_
    refine wp_iload_n (pc := 32) (i := 1) dX7_set_32 rfl rfl ?_
    first | (with_reducible show WP _ _ _ _ _ _ (Value.int (nI _) :: _) _; refine wp_ialdN (pc := 33) dX7_set_33 rfl (by omega) (by first | with_reducible assumption | with_reducible exact hs_same _ _ _ _ | rfl) ?_) | refine wp_iald (pc := 33) dX7_set_33 rfl (by assumption) rfl ?_
    refine wp_iconst (pc := 34) (v := nI 1) dX7_set_34 rfl ?_
    rotate_left
    refine wp_isub (pc := 35) dX7_set_35 ?_
    refine wp_i2l (pc := 36) dX7_set_36 rfl ?_
    refine wp_cS3i (pc := 37) lk_X7_48 dX7_set_37 rfl (sp7_in ?_)
    have es : decide ((lN 0).toInt ≤ i.toInt64.toInt ∧ i.toInt64.toInt ≤ (nI y.2.1 - nI 1).toInt64.toInt) = spn y.2.1 i 1 := by
      rw [tI64, tI64, lN_toInt (by decide), pk_sub_toInt (by omega) (by decide)]
      have e1 : (1 : Int32).toInt = 1 := by decide
      unfold spn
      rw [e1]
      apply decide_eq_decide.mpr
      omega
    rw [es]
    first | (with_reducible show WP _ _ _ _ _ _ (Value.int (bI _) :: _) _; refine wp_if_neB (pc := 40) (tgt := 49) dX7_set_40 (by decide) (fun c40 => ?_) (fun c40 => ?_)) | (with_reducible show WP _ _ _ _ _ _ (Value.int (nI _) :: _) _; refine wp_if_neN (pc := 40) (tgt := 49) dX7_set_40 (by decide) (by omega) (fun c40 => ?_) (fun c40 => ?_)) | refine wp_if_ne (pc := 40) (tgt := 49) dX7_set_40 (by decide) (fun c40 => ?_) (fun c40 => ?_)
    rotate_left
    refine wp_aload_n (pc := 43) (i := 0) dX7_set_43 rfl rfl ?_
    refine wp_iconst (pc := 44) (v := nI 2) dX7_set_44 rfl ?_
    refine wp_cV1i (pc := 45) lk_X7_59 dX7_set_45 rfl rfl rfl (sp7_find ?_)
    refine wp_iret (pc := 48) dX7_set_48 rfl ?_
    rotate_left
    · have q := of_decide_eq_true c40
      have e9 : (1 : Int32).toInt = 1 := by decide
      obtain ⟨j, hj, rfl⟩ := nI_of (x := i) ((le0_iff i).mpr q.1)
      rw [nI_toInt hj] at q
      simp only [c40, if_true, nI_clamp hj] at k
      have z9 : hs h 94 (40 * r + j) (nar y.1 v) 94 (40 * r + j) = nar y.1 v := hs_same _ _ _ _
      refine wp_aload_n (pc := 49) (i := 0) dX7_set_49 rfl rfl ?_
      refine wp_gfr (pc := 50) fk_X7_23 dX7_set_50 rfl rfl (by decide) ?_
      refine wp_bipush (pc := 53) (v := nI 40) dX7_set_53 rfl ?_
      refine wp_iload_n (pc := 55) (i := 1) dX7_set_55 rfl rfl ?_
      first | (with_reducible show WP _ _ _ _ _ _ (Value.int (nI _) :: Value.int (nI _) :: _) _; refine wp_imulN (pc := 56) dX7_set_56 ?_) | refine wp_imul (pc := 56) dX7_set_56 ?_
      refine wp_iload_n (pc := 57) (i := 2) dX7_set_57 rfl rfl ?_
      first | (with_reducible show WP _ _ _ _ _ _ (Value.int (nI _) :: Value.int (nI _) :: _) _; refine wp_iaddN (pc := 58) dX7_set_58 ?_) | refine wp_iadd (pc := 58) dX7_set_58 ?_
      refine wp_iload_n (pc := 59) (i := 3) dX7_set_59 rfl rfl ?_
      refine wp_aload_n (pc := 60) (i := 0) dX7_set_60 rfl rfl ?_
      refine wp_gfr (pc := 61) fk_X7_17 dX7_set_61 rfl rfl (by decide) ?_
      refine wp_iload_n (pc := 64) (i := 1) dX7_set_64 rfl rfl ?_
      first | (with_reducible show WP _ _ _ _ _ _ (Value.int (nI _) :: _) _; refine wp_ialdN (pc := 65) dX7_set_65 rfl (by omega) (by first | with_reducible assumption | with_reducible exact hs_same _ _ _ _ | rfl) ?_) | refine wp_iald (pc := 65) dX7_set_65 rfl (by assumption) rfl ?_
      refine wp_cS2i (pc := 66) lk_X7_66 dX7_set_66 rfl (sp7_narrow hl3 ?_)
      first | (with_reducible show WP _ _ _ _ _ _ (_ :: Value.int (nI _) :: _) _; refine wp_iastN (pc := 69) dX7_set_69 rfl (by omega) ?_) | refine wp_iast (pc := 69) dX7_set_69 rfl (by assumption) rfl ?_
      refine wp_aload_n (pc := 70) (i := 0) dX7_set_70 rfl rfl ?_
      refine wp_aload_n (pc := 71) (i := 0) dX7_set_71 rfl rfl ?_
      refine wp_gfr (pc := 72) fk_X7_23 dX7_set_72 rfl rfl (by decide) ?_
      refine wp_bipush (pc := 75) (v := nI 40) dX7_set_75 rfl ?_
      refine wp_iload_n (pc := 77) (i := 1) dX7_set_77 rfl rfl ?_
      first | (with_reducible show WP _ _ _ _ _ _ (Value.int (nI _) :: Value.int (nI _) :: _) _; refine wp_imulN (pc := 78) dX7_set_78 ?_) | refine wp_imul (pc := 78) dX7_set_78 ?_
      refine wp_iload_n (pc := 79) (i := 2) dX7_set_79 rfl rfl ?_
      first | (with_reducible show WP _ _ _ _ _ _ (Value.int (nI _) :: Value.int (nI _) :: _) _; refine wp_iaddN (pc := 80) dX7_set_80 ?_) | refine wp_iadd (pc := 80) dX7_set_80 ?_
      first | (with_reducible show WP _ _ _ _ _ _ (Value.int (nI _) :: _) _; refine wp_ialdN (pc := 81) dX7_set_81 rfl (by omega) (by first | with_reducible assumption | with_reducible exact hs_same _ _ _ _ | rfl) ?_) | refine wp_iald (pc := 81) dX7_set_81 rfl (by assumption) rfl ?_
      refine wp_cV1i (pc := 82) lk_X7_63 dX7_set_82 rfl rfl rfl (sp7_well ?_)
      refine wp_iret (pc := 85) dX7_set_85 rfl ?_
      rotate_left
      refine k _ (RI.st (H.row hr (x := some (y.1, y.2.1, upd y.2.2 j (nar y.1 v))) ⟨?_, ?_, fun q hq => ?_⟩ hO.row (fun a a1 a2 a3 => hs_ne a3) (fun q hq => by rw [hs_ne (by decide)]) (fun q hq => by rw [hs_ne (by decide)]) (fun q hq => hs_ix (by omega)))) (DS.st (fun a ha => hs_ne (by omega)))
      · rw [hs_ne (by decide)]; exact e
      · rw [hs_ne (by decide)]; exact el
      · rw [hs_get]
        show _ = upd y.2.2 j (nar y.1 v) q
        unfold upd
        by_cases z : q = j
        · rw [if_pos ⟨rfl, by omega⟩, if_pos z]
        · rw [if_neg (fun w => z (by omega)), if_neg z]; exact hx.2.2 q hq
    · simp only [c40, if_true, Bool.false_eq_true, if_false] at k
      exact k _ H.st (DS.rf.st)
theorem sr_feed {x : Int32} {K : Int32 → Hp → Prop} (H : RI h σ) (hO : OKS σ) (k : ∀ h', RI h' (fFeed σ x).2 → DS h h' → K (fFeed σ x).1 h') : Call G (d + 1) mX7_feed [.ref 89, .int x] h (pI K) := by
  have hl := hO.2.2.2.2.1.1
  obtain ⟨a, a2, b, c, f, g, g1, g2, k9⟩ := id H
  have e8 := g.1
  refine Call.of (M := mX7_feed) (n := 0) (by decide +kernel) rfl ?_
  show WP _ _ _ _ 0 [some (.ref 89), some (.int x)] [] _
  refine wp_iload_n (pc := 0) (i := 1) dX7_feed_0 rfl rfl ?_
  first | (with_reducible show WP _ _ _ _ _ _ (Value.int (nI _) :: _) _; refine wp_i2lN (pc := 1) dX7_feed_1 (by omega) ?_) | refine wp_i2l (pc := 1) dX7_feed_1 rfl ?_
  refine wp_lconst (pc := 2) (v := lN 0) dX7_feed_2 rfl ?_
  refine wp_ldc2 (pc := 3) kn_X7_74 dX7_feed_3 ?_
  refine wp_cS3i (pc := 6) lk_X7_48 dX7_feed_6 rfl (sp7_btw (by decide) (by decide) ?_)
  first | (with_reducible show WP _ _ _ _ _ _ (Value.int (bI _) :: _) _; refine wp_if_neB (pc := 9) (tgt := 15) dX7_feed_9 (by decide) (fun c9 => ?_) (fun c9 => ?_)) | (with_reducible show WP _ _ _ _ _ _ (Value.int (nI _) :: _) _; refine wp_if_neN (pc := 9) (tgt := 15) dX7_feed_9 (by decide) (by omega) (fun c9 => ?_) (fun c9 => ?_)) | refine wp_if_ne (pc := 9) (tgt := 15) dX7_feed_9 (by decide) (fun c9 => ?_) (fun c9 => ?_)
  rotate_left
  refine wp_ldc (pc := 12) kn_X7_58 dX7_feed_12 ?_
  refine wp_iret (pc := 14) dX7_feed_14 rfl ?_
  rotate_left
  rotate_left
  · rw [fFeed, c9] at k; exact k h H DS.rf
  rw [fFeed, c9] at k
  obtain ⟨w, -, hw, rfl⟩ := btw_t (by decide) c9
  rw [nI_clamp (by omega)] at k
  by_cases hq : (gB σ).length < 100
  · have z8 : hs h 95 (gB σ).length (nI w) 89 8 = nI (gB σ).length := by rw [hs_ne (by decide)]; exact e8
    simp only [if_true, hq] at k
    refine wp_aload_n (pc := 15) (i := 0) dX7_feed_15 rfl rfl ?_
    refine wp_gfv (pc := 16) fk_X7_76 dX7_feed_16 rfl rfl (by first | with_reducible assumption | with_reducible exact hs_same _ _ _ _ | rfl) ?_
    refine wp_bipush (pc := 19) (v := nI 100) dX7_feed_19 rfl ?_
    first | (with_reducible show WP _ _ _ _ _ _ (Value.int (nI _) :: Value.int (nI _) :: _) _; refine wp_icmp_neN (pc := 21) (tgt := 27) dX7_feed_21 (by decide) (by omega) (by omega) (fun c21 => ?_) (fun c21 => ?_)) | refine wp_icmp_ne (pc := 21) (tgt := 27) dX7_feed_21 (by decide) (fun c21 => ?_) (fun c21 => ?_)
    refine wp_aload_n (pc := 27) (i := 0) dX7_feed_27 rfl rfl ?_
    refine wp_gfr (pc := 28) fk_X7_26 dX7_feed_28 rfl rfl (by decide) ?_
    refine wp_aload_n (pc := 31) (i := 0) dX7_feed_31 rfl rfl ?_
    refine wp_gfv (pc := 32) fk_X7_76 dX7_feed_32 rfl rfl (by first | with_reducible assumption | with_reducible exact hs_same _ _ _ _ | rfl) ?_
    refine wp_iload_n (pc := 35) (i := 1) dX7_feed_35 rfl rfl ?_
    first | (with_reducible show WP _ _ _ _ _ _ (_ :: Value.int (nI _) :: _) _; refine wp_iastN (pc := 36) dX7_feed_36 rfl (by omega) ?_) | refine wp_iast (pc := 36) dX7_feed_36 rfl (by assumption) rfl ?_
    refine wp_aload_n (pc := 37) (i := 0) dX7_feed_37 rfl rfl ?_
    refine wp_dup (pc := 38) dX7_feed_38 rfl ?_
    refine wp_gfv (pc := 39) fk_X7_76 dX7_feed_39 rfl rfl (by first | with_reducible assumption | with_reducible exact hs_same _ _ _ _ | rfl) ?_
    refine wp_iconst (pc := 42) (v := nI 1) dX7_feed_42 rfl ?_
    first | (with_reducible show WP _ _ _ _ _ _ (Value.int (nI _) :: Value.int (nI _) :: _) _; refine wp_iaddN (pc := 43) dX7_feed_43 ?_) | refine wp_iadd (pc := 43) dX7_feed_43 ?_
    refine wp_pf (pc := 44) fp_X7_76 dX7_feed_44 rfl rfl rfl rfl ?_
    refine wp_aload_n (pc := 47) (i := 0) dX7_feed_47 rfl rfl ?_
    refine wp_gfv (pc := 48) fk_X7_76 dX7_feed_48 rfl rfl (by first | with_reducible assumption | with_reducible exact hs_same _ _ _ _ | rfl) ?_
    refine wp_iret (pc := 51) dX7_feed_51 rfl ?_
    rotate_left
    rotate_left
    · refine k _ ⟨a.cg (fun q _ _ => by rw [hs_ne (by decide), hs_ne (by decide)]), by rw [hs_ix (by decide), hs_ne (by decide)]; exact a2, b.cg (by rw [hs_ix (by decide), hs_ne (by decide)]) (fun q _ _ => by rw [hs_ne (by decide), hs_ne (by decide)]), c.cg (by rw [hs_ne (by decide), hs_ne (by decide)]) (fun q _ _ => by rw [hs_ne (by decide), hs_ne (by decide)]), f.cg (by rw [hs_ne (by decide), hs_ne (by decide)]) (by rw [hs_ne (by decide), hs_ne (by decide)]) (by rw [hs_ne (by decide), hs_ne (by decide)]), ⟨?_, fun i v hv => ?_⟩, by rw [hs_ix (by decide), hs_ne (by decide)]; exact g1, by rw [hs_ix (by decide), hs_ne (by decide)]; exact g2, k9.cg (by rw [hs_ix (by decide), hs_ne (by decide)]) (by rw [hs_ne (by decide), hs_ne (by decide)])⟩ (fun q hq => by rw [hs_ne (by omega), hs_ne (by omega)])
      · rw [hs_same]; show _ = nI (gB σ ++ [w]).length; rw [List.length_append]; rfl
      · rw [hs_ne (by decide)]
        have hv : (gB σ ++ [w])[i]? = some v := hv
        by_cases z : i < (gB σ).length
        · rw [List.getElem?_append_left z] at hv
          rw [hs_ix (by omega)]; exact g.2 i v hv
        · rw [List.getElem?_append_right (by omega)] at hv
          have : i - (gB σ).length < 1 := (List.getElem?_eq_some_iff.mp hv).1
          rw [show i - (gB σ).length = 0 by omega] at hv
          cases hv
          rw [show i = (gB σ).length by omega, hs_same]
    · exact absurd hq (by omega)
  · simp only [if_true, hq, if_false] at k
    refine wp_aload_n (pc := 15) (i := 0) dX7_feed_15 rfl rfl ?_
    refine wp_gfv (pc := 16) fk_X7_76 dX7_feed_16 rfl rfl (by first | with_reducible assumption | with_reducible exact hs_same _ _ _ _ | rfl) ?_
    refine wp_bipush (pc := 19) (v := nI 100) dX7_feed_19 rfl ?_
    first | (with_reducible show WP _ _ _ _ _ _ (Value.int (nI _) :: Value.int (nI _) :: _) _; refine wp_icmp_neN (pc := 21) (tgt := 27) dX7_feed_21 (by decide) (by omega) (by omega) (fun c21 => ?_) (fun c21 => ?_)) | refine wp_icmp_ne (pc := 21) (tgt := 27) dX7_feed_21 (by decide) (fun c21 => ?_) (fun c21 => ?_)
    rotate_left
    refine wp_ldc (pc := 24) kn_X7_79 dX7_feed_24 ?_
    refine wp_iret (pc := 26) dX7_feed_26 rfl ?_
    rotate_left
    · exact absurd hl (by omega)
    · exact k h H DS.rf
theorem sr_fault {K : Int32 → Hp → Prop} (H : RI h σ) (k : K (nI (gF σ)) h) : Call G d mX7_fault [.ref 89] h (pI K) := by
  have e := H.2.2.2.2.2.2.1
  refine Call.of (M := mX7_fault) (n := 0) (by decide +kernel) rfl ?_
  show WP _ _ _ _ 0 [some (.ref 89)] [] _
  refine wp_aload_n (pc := 0) (i := 0) dX7_fault_0 rfl rfl ?_
  refine wp_gfv (pc := 1) fk_X7_128 dX7_fault_1 rfl rfl (by first | with_reducible assumption | with_reducible exact hs_same _ _ _ _ | rfl) ?_
  refine wp_iret (pc := 4) dX7_fault_4 rfl ?_
  rotate_left
  exact k
theorem sr_status {K : Int32 → Hp → Prop} (H : RI h σ) (k : K (nI (gS σ)) h) : Call G d mX7_status [.ref 89] h (pI K) := by
  have e := H.2.2.2.2.2.2.2.1
  refine Call.of (M := mX7_status) (n := 0) (by decide +kernel) rfl ?_
  show WP _ _ _ _ 0 [some (.ref 89)] [] _
  refine wp_aload_n (pc := 0) (i := 0) dX7_status_0 rfl rfl ?_
  refine wp_gfv (pc := 1) fk_X7_41 dX7_status_1 rfl rfl (by first | with_reducible assumption | with_reducible exact hs_same _ _ _ _ | rfl) ?_
  refine wp_iret (pc := 4) dX7_status_4 rfl ?_
  rotate_left
  exact k
end RROWS
