section RWHO
variable {G : Gt} {d : Nat} {h : Hp} {σ : Sg} {T : Tn}
theorem sp7_noItems {x g r i n : Int32} {K : Int32 → Hp → Prop} (H : RI h σ) (hO : OKS σ) (k1 : ∀ v s, fTold σ x g r i n = some (v, s) → ¬ v = nI 0 → ∀ h', RI h' s → DS h h' → K v h') (k0 : fTold σ x g r i n = none → K (nI 0) h) : Call G (d + 2) mX7_noItems [.ref 89, .int x, .int g, .int r, .int i, .int n] h (pI K) := by
  have hR := H.1
  have hOT := hO.1.1
  have bad := bad_ne
  refine Call.of (M := mX7_noItems) (n := 0) (by decide +kernel) rfl ?_
  show WP _ _ _ _ 0 [some (.ref 89), some (.int x), some (.int g), some (.int r), some (.int i), some (.int n)] [] _
  refine wp_aload_n (pc := 0) (i := 0) dX7_noItems_0 rfl rfl ?_
  refine wp_iload_n (pc := 1) (i := 1) dX7_noItems_1 rfl rfl ?_
  refine wp_cV1i (pc := 2) lk_X7_184 dX7_noItems_2 rfl rfl rfl (sp7_isChild hR hOT ?_)
  first | (with_reducible show WP _ _ _ _ _ _ (Value.int (bI _) :: _) _; refine wp_if_eqB (pc := 5) (tgt := 36) dX7_noItems_5 (by decide) (fun c5 => ?_) (fun c5 => ?_)) | (with_reducible show WP _ _ _ _ _ _ (Value.int (nI _) :: _) _; refine wp_if_eqN (pc := 5) (tgt := 36) dX7_noItems_5 (by decide) (by omega) (fun c5 => ?_) (fun c5 => ?_)) | refine wp_if_eq (pc := 5) (tgt := 36) dX7_noItems_5 (by decide) (fun c5 => ?_) (fun c5 => ?_)
  refine wp_ldc (pc := 36) kn_X7_58 dX7_noItems_36 ?_
  refine wp_iret (pc := 38) dX7_noItems_38 rfl ?_
  rotate_left
  refine wp_aload_n (pc := 8) (i := 0) dX7_noItems_8 rfl rfl ?_
  refine wp_iload_n (pc := 9) (i := 2) dX7_noItems_9 rfl rfl ?_
  refine wp_cV1i (pc := 10) lk_X7_176 dX7_noItems_10 rfl rfl rfl (sp7_isGran hR hOT ?_)
  first | (with_reducible show WP _ _ _ _ _ _ (Value.int (bI _) :: _) _; refine wp_if_eqB (pc := 13) (tgt := 36) dX7_noItems_13 (by decide) (fun c13 => ?_) (fun c13 => ?_)) | (with_reducible show WP _ _ _ _ _ _ (Value.int (nI _) :: _) _; refine wp_if_eqN (pc := 13) (tgt := 36) dX7_noItems_13 (by decide) (by omega) (fun c13 => ?_) (fun c13 => ?_)) | refine wp_if_eq (pc := 13) (tgt := 36) dX7_noItems_13 (by decide) (fun c13 => ?_) (fun c13 => ?_)
  refine wp_ldc (pc := 36) kn_X7_58 dX7_noItems_36 ?_
  refine wp_iret (pc := 38) dX7_noItems_38 rfl ?_
  rotate_left
  refine wp_iload_n (pc := 16) (i := 3) dX7_noItems_16 rfl rfl ?_
  refine wp_cS1i (pc := 17) lk_X7_52 dX7_noItems_17 rfl (sp7_isRow ?_)
  first | (with_reducible show WP _ _ _ _ _ _ (Value.int (bI _) :: _) _; refine wp_if_eqB (pc := 20) (tgt := 36) dX7_noItems_20 (by decide) (fun c20 => ?_) (fun c20 => ?_)) | (with_reducible show WP _ _ _ _ _ _ (Value.int (nI _) :: _) _; refine wp_if_eqN (pc := 20) (tgt := 36) dX7_noItems_20 (by decide) (by omega) (fun c20 => ?_) (fun c20 => ?_)) | refine wp_if_eq (pc := 20) (tgt := 36) dX7_noItems_20 (by decide) (fun c20 => ?_) (fun c20 => ?_)
  refine wp_ldc (pc := 36) kn_X7_58 dX7_noItems_36 ?_
  refine wp_iret (pc := 38) dX7_noItems_38 rfl ?_
  rotate_left
  refine wp_iload (pc := 23) (i := 5) dX7_noItems_23 rfl ?_
  first | (with_reducible show WP _ _ _ _ _ _ (Value.int (nI _) :: _) _; refine wp_i2lN (pc := 25) dX7_noItems_25 (by omega) ?_) | refine wp_i2l (pc := 25) dX7_noItems_25 rfl ?_
  refine wp_lconst (pc := 26) (v := lN 1) dX7_noItems_26 rfl ?_
  refine wp_ldc2 (pc := 27) kn_X7_224 dX7_noItems_27 ?_
  refine wp_cS3i (pc := 30) lk_X7_48 dX7_noItems_30 rfl (sp7_btw (by decide) (by decide) ?_)
  first | (with_reducible show WP _ _ _ _ _ _ (Value.int (bI _) :: _) _; refine wp_if_neB (pc := 33) (tgt := 39) dX7_noItems_33 (by decide) (fun c33 => ?_) (fun c33 => ?_)) | (with_reducible show WP _ _ _ _ _ _ (Value.int (nI _) :: _) _; refine wp_if_neN (pc := 33) (tgt := 39) dX7_noItems_33 (by decide) (by omega) (fun c33 => ?_) (fun c33 => ?_)) | refine wp_if_ne (pc := 33) (tgt := 39) dX7_noItems_33 (by decide) (fun c33 => ?_) (fun c33 => ?_)
  rotate_left
  refine wp_ldc (pc := 36) kn_X7_58 dX7_noItems_36 ?_
  refine wp_iret (pc := 38) dX7_noItems_38 rfl ?_
  rotate_left
  · exact k1 kBAD σ (by rw [fTold, c5]; exact if_neg (by simp)) bad h H DS.rf
  · exact k1 kBAD σ (by rw [fTold, c5, c13]; exact if_neg (by simp)) bad h H DS.rf
  · exact k1 kBAD σ (by rw [fTold, c5, c13, c20]; exact if_neg (by simp)) bad h H DS.rf
  rotate_left
  · exact k1 kBAD σ (by rw [fTold, c5, c13, c20, c33]; exact if_neg (by simp)) bad h H DS.rf
  obtain ⟨r, hr, rfl⟩ := inN_t (by decide) c20
  have ef : fTold σ x g (nI r) i n = if fin1 (gR σ r) i n = 0 then none else some (kFOUND - nI (fin1 (gR σ r) i n), upS σ (fin1 (gR σ r) i n)) := by
    rw [fTold, c5, c13, c20, c33, nI_clamp (by omega)]; exact if_pos rfl
  have hx := H.2.2.2.2.1 r hr
  cases hy : gR σ r with
  | none =>
    rw [hy] at hx ef
    rw [show fin1 none i n = 1 from rfl, if_neg (by decide)] at ef
    have e : h 93 r = kM1 := hx
    refine wp_aload_n (pc := 39) (i := 0) dX7_noItems_39 rfl rfl ?_
    refine wp_gfr (pc := 40) fk_X7_20 dX7_noItems_40 rfl rfl (by decide) ?_
    refine wp_iload_n (pc := 43) (i := 3) dX7_noItems_43 rfl rfl ?_
    first | (with_reducible show WP _ _ _ _ _ _ (Value.int (nI _) :: _) _; refine wp_ialdN (pc := 44) dX7_noItems_44 rfl (by omega) (by first | with_reducible assumption | with_reducible exact hs_same _ _ _ _ | rfl) ?_) | refine wp_iald (pc := 44) dX7_noItems_44 rfl (by assumption) rfl ?_
    rotate_left
    refine wp_if_ge (pc := 45) (tgt := 56) dX7_noItems_45 (by decide) (fun c45 => absurd c45 (by decide)) (fun c45 => ?_)
    refine wp_aload_n (pc := 48) (i := 0) dX7_noItems_48 rfl rfl ?_
    refine wp_iconst (pc := 49) (v := nI 1) dX7_noItems_49 rfl ?_
    refine wp_cV1i (pc := 50) lk_X7_59 dX7_noItems_50 rfl rfl rfl (sp7_find ?_)
    refine wp_goto (pc := 53) (tgt := 77) dX7_noItems_53 (by decide) ?_
    refine wp_iret (pc := 77) dX7_noItems_77 rfl ?_
    rotate_left
    exact k1 _ _ ef (fnd_ne (by decide)) _ H.st DS.rf.st
  | some y =>
    rw [hy] at hx ef
    have e : h 93 r = nI y.2.1 := hx.1
    have y4 := (hO.2.2.2.1 r y hy).2
    rw [show fin1 (some y) i n = if spn y.2.1 i n then 0 else 2 from rfl] at ef
    refine wp_aload_n (pc := 39) (i := 0) dX7_noItems_39 rfl rfl ?_
    refine wp_gfr (pc := 40) fk_X7_20 dX7_noItems_40 rfl rfl (by decide) ?_
    refine wp_iload_n (pc := 43) (i := 3) dX7_noItems_43 rfl rfl ?_
    first | (with_reducible show WP _ _ _ _ _ _ (Value.int (nI _) :: _) _; refine wp_ialdN (pc := 44) dX7_noItems_44 rfl (by omega) (by first | with_reducible assumption | with_reducible exact hs_same _ _ _ _ | rfl) ?_) | refine wp_iald (pc := 44) dX7_noItems_44 rfl (by assumption) rfl ?_
    first | (with_reducible show WP _ _ _ _ _ _ (Value.int (nI _) :: _) _; refine wp_if_geN (pc := 45) (tgt := 56) dX7_noItems_45 (by decide) (by omega) (fun c45 => ?_) (fun c45 => ?_)) | refine wp_if_ge (pc := 45) (tgt := 56) dX7_noItems_45 (by decide) (fun c45 => ?_) (fun c45 => ?_)
    refine wp_aload_n (pc := 56) (i := 0) dX7_noItems_56 rfl rfl ?_
    refine wp_iload_n (pc := 57) (i := 3) dX7_noItems_57 rfl rfl ?_
    refine wp_iload (pc := 58) (i := 4) dX7_noItems_58 rfl ?_
    refine wp_iload (pc := 60) (i := 5) dX7_noItems_60 rfl ?_
    refine wp_cV3i (pc := 62) lk_X7_70 dX7_noItems_62 rfl rfl rfl (sp7_isSpan hr e y4 ?_)
    first | (with_reducible show WP _ _ _ _ _ _ (Value.int (bI _) :: _) _; refine wp_if_eqB (pc := 65) (tgt := 72) dX7_noItems_65 (by decide) (fun c65 => ?_) (fun c65 => ?_)) | (with_reducible show WP _ _ _ _ _ _ (Value.int (nI _) :: _) _; refine wp_if_eqN (pc := 65) (tgt := 72) dX7_noItems_65 (by decide) (by omega) (fun c65 => ?_) (fun c65 => ?_)) | refine wp_if_eq (pc := 65) (tgt := 72) dX7_noItems_65 (by decide) (fun c65 => ?_) (fun c65 => ?_)
    refine wp_aload_n (pc := 72) (i := 0) dX7_noItems_72 rfl rfl ?_
    refine wp_iconst (pc := 73) (v := nI 2) dX7_noItems_73 rfl ?_
    refine wp_cV1i (pc := 74) lk_X7_59 dX7_noItems_74 rfl rfl rfl (sp7_find ?_)
    refine wp_iret (pc := 77) dX7_noItems_77 rfl ?_
    rotate_left
    refine wp_iconst (pc := 68) (v := nI 0) dX7_noItems_68 rfl ?_
    refine wp_goto (pc := 69) (tgt := 77) dX7_noItems_69 (by decide) ?_
    refine wp_iret (pc := 77) dX7_noItems_77 rfl ?_
    rotate_left
    rotate_left
    · rw [c65] at ef
      have ef : fTold σ x g (nI r) i n = some (kFOUND - nI 2, upS σ 2) := by rw [ef]; exact if_neg (by decide)
      exact k1 _ _ ef (fnd_ne (by decide)) _ H.st DS.rf.st
    · rw [c65] at ef
      exact k0 (by rw [ef]; exact if_pos rfl)
    · exact absurd c45 (by omega)
theorem sp7_isFedSo {V : Tn} {c q v r i n : Nat} {f : Nat → Int32} {K : Int32 → Hp → Prop} (hR : RW h 0 T) (hq : q < 56) (hV : V = up T q v) (hO : OKT V) (h0 : 0 < V 1) (hc : c < V 0) (hr : r < 8) (hn : n ≤ 12) (hi : i + n ≤ 40) (hd : V 4 ≤ 999) (hf : ∀ j, j < n → h 94 (40 * r + (i + j)) = f j) (k : ∀ h', FB h h' 1512 → K (bI (fso V c f n)) h') : Call G (d + 4) mX7_isFedSo [.ref 89, .int (nI c), .int (nI q), .int (nI v), .int (nI r), .int (nI i), .int (nI n)] h (pI K) := by
  have v0 := hO.1
  refine Call.of (M := mX7_isFedSo) (n := 1) (by decide +kernel) rfl ?_
  show WP _ _ _ _ 0 [some (.ref 89), some (.int (nI c)), some (.int (nI q)), some (.int (nI v)), some (.int (nI r)), some (.int (nI i)), some (.int (nI n)), none] [] _
  have loop : ∀ m j h1, j + m = n → RW h1 1512 (itP V j) → FB h h1 1512 → fso V c f j = true → WP G (d + 4) mX7_isFedSo (pI K) 22 [some (.ref 89), some (.int (nI c)), some (.int (nI q)), some (.int (nI v)), some (.int (nI r)), some (.int (nI i)), some (.int (nI n)), some (.int (nI j))] [] h1 := by
    intro m
    induction m with
    | zero =>
      intro j h1 hjm hR1 hf1 ht
      have kk := k h1 hf1
      refine wp_iload (pc := 22) (i := 7) dX7_isFedSo_22 rfl ?_
      refine wp_iload (pc := 24) (i := 6) dX7_isFedSo_24 rfl ?_
      first | (with_reducible show WP _ _ _ _ _ _ (Value.int (nI _) :: Value.int (nI _) :: _) _; refine wp_icmp_geN (pc := 26) (tgt := 73) dX7_isFedSo_26 (by decide) (by omega) (by omega) (fun c26 => ?_) (fun c26 => ?_)) | refine wp_icmp_ge (pc := 26) (tgt := 73) dX7_isFedSo_26 (by decide) (fun c26 => ?_) (fun c26 => ?_)
      refine wp_iconst (pc := 73) (v := nI 1) dX7_isFedSo_73 rfl ?_
      refine wp_zret (pc := 74) dX7_isFedSo_74 rfl (by first | exact Or.inl rfl | exact Or.inr rfl | assumption | exact bI_01 _) ?_
      rotate_left
      rotate_left
      · rw [show n = j by omega, ht] at kk; exact kk
      · exact absurd hjm (by omega)
    | succ m ih =>
      intro j h1 hjm hR1 hf1 ht
      obtain ⟨p1, p2, p3⟩ := itP_keep hO h0 j (by omega)
      refine wp_iload (pc := 22) (i := 7) dX7_isFedSo_22 rfl ?_
      refine wp_iload (pc := 24) (i := 6) dX7_isFedSo_24 rfl ?_
      first | (with_reducible show WP _ _ _ _ _ _ (Value.int (nI _) :: Value.int (nI _) :: _) _; refine wp_icmp_geN (pc := 26) (tgt := 73) dX7_isFedSo_26 (by decide) (by omega) (by omega) (fun c26 => ?_) (fun c26 => ?_)) | refine wp_icmp_ge (pc := 26) (tgt := 73) dX7_isFedSo_26 (by decide) (fun c26 => ?_) (fun c26 => ?_)
      rotate_left
      refine wp_aload_n (pc := 29) (i := 0) dX7_isFedSo_29 rfl rfl ?_
      refine wp_sipush (pc := 30) (v := nI 1512) dX7_isFedSo_30 rfl ?_
      refine wp_cV1v (pc := 33) lk_X7_172 dX7_isFedSo_33 rfl rfl rfl (sp7_pass hR1 p1 (by omega) (by rw [p3 1 (by omega)]; exact h0) (by omega) (fun h2 hR2 hf2 => ?_))
      rotate_left
      · exact absurd hjm (by omega)
      have hf2 : FB h h2 1512 := hf1.tr hf2
      have hR2 : RW h2 1512 (itP V (j + 1)) := hR2
      have e1 : h2 90 (1517 + c) = nI (itP V (j + 1) (5 + c)) := by have := hR2 (5 + c) (by omega); rwa [← Nat.add_assoc] at this
      have e2 : h2 94 (40 * r + i + j) = f j := by rw [hf2.1 94 (by decide), Nat.add_assoc]; exact hf j (by omega)
      refine wp_aload_n (pc := 36) (i := 0) dX7_isFedSo_36 rfl rfl ?_
      refine wp_gfr (pc := 37) fk_X7_7 dX7_isFedSo_37 rfl rfl (by decide) ?_
      refine wp_sipush (pc := 40) (v := nI 1517) dX7_isFedSo_40 rfl ?_
      refine wp_iload_n (pc := 43) (i := 1) dX7_isFedSo_43 rfl rfl ?_
      first | (with_reducible show WP _ _ _ _ _ _ (Value.int (nI _) :: Value.int (nI _) :: _) _; refine wp_iaddN (pc := 44) dX7_isFedSo_44 ?_) | refine wp_iadd (pc := 44) dX7_isFedSo_44 ?_
      first | (with_reducible show WP _ _ _ _ _ _ (Value.int (nI _) :: _) _; refine wp_ialdN (pc := 45) dX7_isFedSo_45 rfl (by omega) (by first | with_reducible assumption | with_reducible exact hs_same _ _ _ _ | rfl) ?_) | refine wp_iald (pc := 45) dX7_isFedSo_45 rfl (by assumption) rfl ?_
      refine wp_aload_n (pc := 46) (i := 0) dX7_isFedSo_46 rfl rfl ?_
      refine wp_gfr (pc := 47) fk_X7_23 dX7_isFedSo_47 rfl rfl (by decide) ?_
      refine wp_bipush (pc := 50) (v := nI 40) dX7_isFedSo_50 rfl ?_
      refine wp_iload (pc := 52) (i := 4) dX7_isFedSo_52 rfl ?_
      first | (with_reducible show WP _ _ _ _ _ _ (Value.int (nI _) :: Value.int (nI _) :: _) _; refine wp_imulN (pc := 54) dX7_isFedSo_54 ?_) | refine wp_imul (pc := 54) dX7_isFedSo_54 ?_
      refine wp_iload (pc := 55) (i := 5) dX7_isFedSo_55 rfl ?_
      first | (with_reducible show WP _ _ _ _ _ _ (Value.int (nI _) :: Value.int (nI _) :: _) _; refine wp_iaddN (pc := 57) dX7_isFedSo_57 ?_) | refine wp_iadd (pc := 57) dX7_isFedSo_57 ?_
      refine wp_iload (pc := 58) (i := 7) dX7_isFedSo_58 rfl ?_
      first | (with_reducible show WP _ _ _ _ _ _ (Value.int (nI _) :: Value.int (nI _) :: _) _; refine wp_iaddN (pc := 60) dX7_isFedSo_60 ?_) | refine wp_iadd (pc := 60) dX7_isFedSo_60 ?_
      first | (with_reducible show WP _ _ _ _ _ _ (Value.int (nI _) :: _) _; refine wp_ialdN (pc := 61) dX7_isFedSo_61 rfl (by omega) (by first | with_reducible assumption | with_reducible exact hs_same _ _ _ _ | rfl) ?_) | refine wp_iald (pc := 61) dX7_isFedSo_61 rfl (by assumption) rfl ?_
      rotate_left
      refine wp_icmp_eq (pc := 62) (tgt := 67) dX7_isFedSo_62 (by decide) (fun c62 => ?_) (fun c62 => ?_)
      · first | refine wp_iincN (pc := 67) (i := 7) (n := 1) dX7_isFedSo_67 rfl rfl (by decide) rfl ?_ | refine wp_iinc (pc := 67) (i := 7) dX7_isFedSo_67 rfl rfl rfl (by decide) rfl ?_
        dsimp only [List.set_cons_zero, List.set_cons_succ]
        refine wp_goto (pc := 70) (tgt := 22) dX7_isFedSo_70 (by decide) ?_
        rotate_left
        exact ih (j + 1) h2 (by omega) hR2 hf2 (by show (fso V c f j && decide _) = true; rw [ht, decide_eq_true c62]; rfl)
      · have kk := k h2 hf2
        rw [fso_f c62 n (by omega)] at kk
        refine wp_iconst (pc := 65) (v := nI 0) dX7_isFedSo_65 rfl ?_
        refine wp_zret (pc := 66) dX7_isFedSo_66 rfl (by first | exact Or.inl rfl | exact Or.inr rfl | assumption | exact bI_01 _) ?_
        rotate_left
        exact kk
  refine wp_aload_n (pc := 0) (i := 0) dX7_isFedSo_0 rfl rfl ?_
  refine wp_iconst (pc := 1) (v := nI 0) dX7_isFedSo_1 rfl ?_
  refine wp_sipush (pc := 2) (v := nI 1512) dX7_isFedSo_2 rfl ?_
  refine wp_cV2v (pc := 5) lk_X7_132 dX7_isFedSo_5 rfl rfl rfl (sp7_copyTown hR (by omega) (by omega) (by omega) (fun h1 hR1 hf1 => ?_))
  rotate_left
  have w := RWup (v := v) hR1 hq
  rw [← hV] at w
  refine wp_aload_n (pc := 8) (i := 0) dX7_isFedSo_8 rfl rfl ?_
  refine wp_gfr (pc := 9) fk_X7_7 dX7_isFedSo_9 rfl rfl (by decide) ?_
  refine wp_sipush (pc := 12) (v := nI 1512) dX7_isFedSo_12 rfl ?_
  refine wp_iload_n (pc := 15) (i := 2) dX7_isFedSo_15 rfl rfl ?_
  first | (with_reducible show WP _ _ _ _ _ _ (Value.int (nI _) :: Value.int (nI _) :: _) _; refine wp_iaddN (pc := 16) dX7_isFedSo_16 ?_) | refine wp_iadd (pc := 16) dX7_isFedSo_16 ?_
  refine wp_iload_n (pc := 17) (i := 3) dX7_isFedSo_17 rfl rfl ?_
  first | (with_reducible show WP _ _ _ _ _ _ (_ :: Value.int (nI _) :: _) _; refine wp_iastN (pc := 18) dX7_isFedSo_18 rfl (by omega) ?_) | refine wp_iast (pc := 18) dX7_isFedSo_18 rfl (by assumption) rfl ?_
  refine wp_iconst (pc := 19) (v := nI 0) dX7_isFedSo_19 rfl ?_
  refine wp_istore (pc := 20) (i := 7) dX7_isFedSo_20 rfl (by decide) rfl ?_
  dsimp only [List.set_cons_zero, List.set_cons_succ]
  rotate_left
  exact loop n 0 _ (by omega) w (hf1.hs (by omega) (by omega)) rfl
theorem rr_itm {r i n : Nat} {y : Rw} (H : RI h σ) (hr : r < 8) (hy : gR σ r = some y) (hi : i + n ≤ y.2.1) : ∀ j, j < n → h 94 (40 * r + (i + j)) = itm σ r i j := fun j hj => by
  have := H.2.2.2.2.1 r hr
  rw [hy] at this
  rw [itm, hy]
  exact this.2.2 (i + j) (by omega)
theorem sr_who {x g r i n : Int32} {K : Int32 → Hp → Prop} (H : RI h σ) (hO : OKS σ) (k : ∀ h', RI h' (fWho σ x g r i n).2 → DS h h' → K (fWho σ x g r i n).1 h') : Call G (d + 5) mX7_who [.ref 89, .int x, .int g, .int r, .int i, .int n] h (pI K) := by
  have hOT := hO.1.1
  have hd := hO.1.2
  obtain ⟨o0, o1, o2, o3, o4, o5, o6, o7, o8⟩ := id hOT
  refine Call.of (M := mX7_who) (n := 3) (by decide +kernel) rfl ?_
  show WP _ _ _ _ 0 [some (.ref 89), some (.int x), some (.int g), some (.int r), some (.int i), some (.int n), none, none, none] [] _
  refine wp_aload_n (pc := 0) (i := 0) dX7_who_0 rfl rfl ?_
  refine wp_iload_n (pc := 1) (i := 1) dX7_who_1 rfl rfl ?_
  refine wp_iload_n (pc := 2) (i := 2) dX7_who_2 rfl rfl ?_
  refine wp_iload_n (pc := 3) (i := 3) dX7_who_3 rfl rfl ?_
  refine wp_iload (pc := 4) (i := 4) dX7_who_4 rfl ?_
  refine wp_iload (pc := 6) (i := 5) dX7_who_6 rfl ?_
  rotate_left
  refine wp_cV5i (pc := 8) lk_X7_226 dX7_who_8 rfl rfl rfl (sp7_noItems H hO (fun v s e1 e2 h1 H1 hr1 => ?_) (fun e1 => ?_))
  · rw [fWho, toldA, e1] at k
    refine wp_istore (pc := 11) (i := 6) dX7_who_11 rfl (by decide) rfl ?_
    dsimp only [List.set_cons_zero, List.set_cons_succ]
    refine wp_iload (pc := 13) (i := 6) dX7_who_13 rfl ?_
    rotate_left
    refine wp_if_eq (pc := 15) (tgt := 21) dX7_who_15 (by decide) (fun c15 => absurd c15 e2) (fun c15 => ?_)
    refine wp_iload (pc := 18) (i := 6) dX7_who_18 rfl ?_
    refine wp_iret (pc := 20) dX7_who_20 rfl ?_
    rotate_left
    exact k h1 H1 hr1
  rw [fWho, toldA, e1] at k
  obtain ⟨x', g', r', i', n', y, rfl, rfl, rfl, rfl, rfl, hx, hg, hr, hn1, hn, hy, hi⟩ := told_none o1 o0 e1
  have hy4 := (hO.2.2.2.1 r' y hy).2
  rw [nI_clamp (show x' < 2 ^ 31 by omega), nI_clamp (show g' < 2 ^ 31 by omega), nI_clamp (show r' < 2 ^ 31 by omega), nI_clamp (show i' < 2 ^ 31 by omega), nI_clamp (show n' < 2 ^ 31 by omega)] at k
  have e0 : h 90 0 = nI (gT σ 0) := H.1 0 (by omega)
  have loop : ∀ m j h1, j + m = 5 → FB h h1 1512 → WP G (d + 5) mX7_who (pI K) 27 [some (.ref 89), some (.int (nI x')), some (.int (nI g')), some (.int (nI r')), some (.int (nI i')), some (.int (nI n')), some (.int (nI 0)), some (.int (nI (orU (fun v => fso (up (gT σ) (20 + g') v) x' (itm σ r' i') n') 1 j))), some (.int (nI (1 + j)))] [] h1 := by
    intro m
    induction m with
    | zero =>
      intro j h1 hjm hq1
      have e3 : h1 90 0 = nI (gT σ 0) := by rw [hq1.2 0 (by omega)]; exact e0
      refine wp_iload (pc := 27) (i := 8) dX7_who_27 rfl ?_
      refine wp_bipush (pc := 29) (v := nI 6) dX7_who_29 rfl ?_
      first | (with_reducible show WP _ _ _ _ _ _ (Value.int (nI _) :: Value.int (nI _) :: _) _; refine wp_icmp_geN (pc := 31) (tgt := 72) dX7_who_31 (by decide) (by omega) (by omega) (fun c31 => ?_) (fun c31 => ?_)) | refine wp_icmp_ge (pc := 31) (tgt := 72) dX7_who_31 (by decide) (fun c31 => ?_) (fun c31 => ?_)
      refine wp_aload_n (pc := 72) (i := 0) dX7_who_72 rfl rfl ?_
      refine wp_iload (pc := 73) (i := 7) dX7_who_73 rfl ?_
      refine wp_cV1i (pc := 75) lk_X7_63 dX7_who_75 rfl rfl rfl (sp7_well ?_)
      refine wp_iret (pc := 78) dX7_who_78 rfl ?_
      rotate_left
      rotate_left
      · rw [show j = 5 by omega]; exact k _ (RI.st (H.sr hq1.sr)) (hq1.sr.ds.st)
      · exact absurd hjm (by omega)
    | succ m ih =>
      intro j h1 hjm hq1
      have e3 : h1 90 0 = nI (gT σ 0) := by rw [hq1.2 0 (by omega)]; exact e0
      have H1 := H.sr hq1.sr
      have w := fun h2 q => ih (j + 1) h2 (by omega) q
      rw [show orU (fun v => fso (up (gT σ) (20 + g') v) x' (itm σ r' i') n') 1 (j + 1) = orU (fun v => fso (up (gT σ) (20 + g') v) x' (itm σ r' i') n') 1 j ||| (if fso (up (gT σ) (20 + g') (1 + j)) x' (itm σ r' i') n' then 1 * 2 ^ (1 + j) else 0) from rfl, ← Nat.add_assoc] at w
      have hlt := orU_lt (fun v => fso (up (gT σ) (20 + g') v) x' (itm σ r' i') n') 1 j
      have hlt2 : 2 ^ (1 + j) ≤ 2 ^ 6 := Nat.pow_le_pow_right (by decide) (by omega)
      have q1 := okt_sor (v := 1 + j) hOT hg (by omega)
      have it := rr_itm H1 hr hy hi
      refine wp_iload (pc := 27) (i := 8) dX7_who_27 rfl ?_
      refine wp_bipush (pc := 29) (v := nI 6) dX7_who_29 rfl ?_
      first | (with_reducible show WP _ _ _ _ _ _ (Value.int (nI _) :: Value.int (nI _) :: _) _; refine wp_icmp_geN (pc := 31) (tgt := 72) dX7_who_31 (by decide) (by omega) (by omega) (fun c31 => ?_) (fun c31 => ?_)) | refine wp_icmp_ge (pc := 31) (tgt := 72) dX7_who_31 (by decide) (fun c31 => ?_) (fun c31 => ?_)
      rotate_left
      refine wp_iload (pc := 34) (i := 7) dX7_who_34 rfl ?_
      refine wp_aload_n (pc := 36) (i := 0) dX7_who_36 rfl rfl ?_
      refine wp_iload_n (pc := 37) (i := 1) dX7_who_37 rfl rfl ?_
      refine wp_bipush (pc := 38) (v := nI 20) dX7_who_38 rfl ?_
      refine wp_iload_n (pc := 40) (i := 2) dX7_who_40 rfl rfl ?_
      first | (with_reducible show WP _ _ _ _ _ _ (Value.int (nI _) :: Value.int (nI _) :: _) _; refine wp_iaddN (pc := 41) dX7_who_41 ?_) | refine wp_iadd (pc := 41) dX7_who_41 ?_
      refine wp_iload (pc := 42) (i := 8) dX7_who_42 rfl ?_
      refine wp_iload_n (pc := 44) (i := 3) dX7_who_44 rfl rfl ?_
      refine wp_iload (pc := 45) (i := 4) dX7_who_45 rfl ?_
      refine wp_iload (pc := 47) (i := 5) dX7_who_47 rfl ?_
      refine wp_cV6i (pc := 49) lk_X7_230 dX7_who_49 rfl rfl rfl (sp7_isFedSo H1.1 (by omega) rfl q1 (by rw [up_ne (by omega)]; omega) (by rw [up_ne (by omega)]; exact hx) hr hn (by omega) (by rw [up_ne (by omega)]; exact hd) it (fun h4 hf4 => ?_))
      rotate_left
      · exact absurd hjm (by omega)
      have w := w h4 (hq1.tr hf4)
      first | (with_reducible show WP _ _ _ _ _ _ (Value.int (bI _) :: _) _; refine wp_if_eqB (pc := 52) (tgt := 62) dX7_who_52 (by decide) (fun c52 => ?_) (fun c52 => ?_)) | (with_reducible show WP _ _ _ _ _ _ (Value.int (nI _) :: _) _; refine wp_if_eqN (pc := 52) (tgt := 62) dX7_who_52 (by decide) (by omega) (fun c52 => ?_) (fun c52 => ?_)) | refine wp_if_eq (pc := 52) (tgt := 62) dX7_who_52 (by decide) (fun c52 => ?_) (fun c52 => ?_)
      refine wp_iconst (pc := 62) (v := nI 0) dX7_who_62 rfl ?_
      first | (with_reducible show WP _ _ _ _ _ _ (Value.int (nI _) :: Value.int (nI _) :: _) _; refine wp_iorN (pc := 63) dX7_who_63 ?_) | refine wp_ior (pc := 63) dX7_who_63 ?_
      refine wp_istore (pc := 64) (i := 7) dX7_who_64 rfl (by decide) rfl ?_
      dsimp only [List.set_cons_zero, List.set_cons_succ]
      first | refine wp_iincN (pc := 66) (i := 8) (n := 1) dX7_who_66 rfl rfl (by decide) rfl ?_ | refine wp_iinc (pc := 66) (i := 8) dX7_who_66 rfl rfl rfl (by decide) rfl ?_
      dsimp only [List.set_cons_zero, List.set_cons_succ]
      refine wp_goto (pc := 69) (tgt := 27) dX7_who_69 (by decide) ?_
      rotate_left
      refine wp_iconst (pc := 55) (v := nI 1) dX7_who_55 rfl ?_
      refine wp_iload (pc := 56) (i := 8) dX7_who_56 rfl ?_
      first | (with_reducible show WP _ _ _ _ _ _ (Value.int (nI _) :: Value.int (nI _) :: _) _; refine wp_ishlN (pc := 58) dX7_who_58 (by omega) ?_) | refine wp_ishl (pc := 58) dX7_who_58 ?_
      refine wp_goto (pc := 59) (tgt := 63) dX7_who_59 (by decide) ?_
      first | (with_reducible show WP _ _ _ _ _ _ (Value.int (nI _) :: Value.int (nI _) :: _) _; refine wp_iorN (pc := 63) dX7_who_63 ?_) | refine wp_ior (pc := 63) dX7_who_63 ?_
      refine wp_istore (pc := 64) (i := 7) dX7_who_64 rfl (by decide) rfl ?_
      dsimp only [List.set_cons_zero, List.set_cons_succ]
      first | refine wp_iincN (pc := 66) (i := 8) (n := 1) dX7_who_66 rfl rfl (by decide) rfl ?_ | refine wp_iinc (pc := 66) (i := 8) dX7_who_66 rfl rfl rfl (by decide) rfl ?_
      dsimp only [List.set_cons_zero, List.set_cons_succ]
      refine wp_goto (pc := 69) (tgt := 27) dX7_who_69 (by decide) ?_
      rotate_left
      · rw [c52] at w; exact w
      · rw [c52] at w; exact w
  refine wp_istore (pc := 11) (i := 6) dX7_who_11 rfl (by decide) rfl ?_
  dsimp only [List.set_cons_zero, List.set_cons_succ]
  refine wp_iload (pc := 13) (i := 6) dX7_who_13 rfl ?_
  first | (with_reducible show WP _ _ _ _ _ _ (Value.int (bI _) :: _) _; refine wp_if_eqB (pc := 15) (tgt := 21) dX7_who_15 (by decide) (fun c15 => ?_) (fun c15 => ?_)) | (with_reducible show WP _ _ _ _ _ _ (Value.int (nI _) :: _) _; refine wp_if_eqN (pc := 15) (tgt := 21) dX7_who_15 (by decide) (by omega) (fun c15 => ?_) (fun c15 => ?_)) | refine wp_if_eq (pc := 15) (tgt := 21) dX7_who_15 (by decide) (fun c15 => ?_) (fun c15 => ?_)
  refine wp_iconst (pc := 21) (v := nI 0) dX7_who_21 rfl ?_
  refine wp_istore (pc := 22) (i := 7) dX7_who_22 rfl (by decide) rfl ?_
  dsimp only [List.set_cons_zero, List.set_cons_succ]
  refine wp_iconst (pc := 24) (v := nI 1) dX7_who_24 rfl ?_
  refine wp_istore (pc := 25) (i := 8) dX7_who_25 rfl (by decide) rfl ?_
  dsimp only [List.set_cons_zero, List.set_cons_succ]
  rotate_left
  rotate_left
  · exact loop (5) 0 _ (by omega) (FB.rf h 1512)
  · exact absurd rfl c15
theorem sr_firsts {x g r i n : Int32} {K : Int32 → Hp → Prop} (H : RI h σ) (hO : OKS σ) (k : ∀ h', RI h' (fFirsts σ x g r i n).2 → DS h h' → K (fFirsts σ x g r i n).1 h') : Call G (d + 5) mX7_firsts [.ref 89, .int x, .int g, .int r, .int i, .int n] h (pI K) := by
  have hOT := hO.1.1
  have hd := hO.1.2
  obtain ⟨o0, o1, o2, o3, o4, o5, o6, o7, o8⟩ := id hOT
  refine Call.of (M := mX7_firsts) (n := 3) (by decide +kernel) rfl ?_
  show WP _ _ _ _ 0 [some (.ref 89), some (.int x), some (.int g), some (.int r), some (.int i), some (.int n), none, none, none] [] _
  refine wp_aload_n (pc := 0) (i := 0) dX7_firsts_0 rfl rfl ?_
  refine wp_iload_n (pc := 1) (i := 1) dX7_firsts_1 rfl rfl ?_
  refine wp_iload_n (pc := 2) (i := 2) dX7_firsts_2 rfl rfl ?_
  refine wp_iload_n (pc := 3) (i := 3) dX7_firsts_3 rfl rfl ?_
  refine wp_iload (pc := 4) (i := 4) dX7_firsts_4 rfl ?_
  refine wp_iload (pc := 6) (i := 5) dX7_firsts_6 rfl ?_
  rotate_left
  refine wp_cV5i (pc := 8) lk_X7_226 dX7_firsts_8 rfl rfl rfl (sp7_noItems H hO (fun v s e1 e2 h1 H1 hr1 => ?_) (fun e1 => ?_))
  · rw [fFirsts, toldA, e1] at k
    refine wp_istore (pc := 11) (i := 6) dX7_firsts_11 rfl (by decide) rfl ?_
    dsimp only [List.set_cons_zero, List.set_cons_succ]
    refine wp_iload (pc := 13) (i := 6) dX7_firsts_13 rfl ?_
    rotate_left
    refine wp_if_eq (pc := 15) (tgt := 21) dX7_firsts_15 (by decide) (fun c15 => absurd c15 e2) (fun c15 => ?_)
    refine wp_iload (pc := 18) (i := 6) dX7_firsts_18 rfl ?_
    refine wp_iret (pc := 20) dX7_firsts_20 rfl ?_
    rotate_left
    exact k h1 H1 hr1
  rw [fFirsts, toldA, e1] at k
  obtain ⟨x', g', r', i', n', y, rfl, rfl, rfl, rfl, rfl, hx, hg, hr, hn1, hn, hy, hi⟩ := told_none o1 o0 e1
  have hy4 := (hO.2.2.2.1 r' y hy).2
  rw [nI_clamp (show x' < 2 ^ 31 by omega), nI_clamp (show g' < 2 ^ 31 by omega), nI_clamp (show r' < 2 ^ 31 by omega), nI_clamp (show i' < 2 ^ 31 by omega), nI_clamp (show n' < 2 ^ 31 by omega)] at k
  have e0 : h 90 0 = nI (gT σ 0) := H.1 0 (by omega)
  have loop : ∀ m j h1, j + m = gT σ 0 → FB h h1 1512 → WP G (d + 5) mX7_firsts (pI K) 27 [some (.ref 89), some (.int (nI x')), some (.int (nI g')), some (.int (nI r')), some (.int (nI i')), some (.int (nI n')), some (.int (nI 0)), some (.int (nI (orU (fun v => fso (up (gT σ) (32 + g') v) x' (itm σ r' i') n') 0 j))), some (.int (nI (0 + j)))] [] h1 := by
    intro m
    induction m with
    | zero =>
      intro j h1 hjm hq1
      have e3 : h1 90 0 = nI (gT σ 0) := by rw [hq1.2 0 (by omega)]; exact e0
      refine wp_iload (pc := 27) (i := 8) dX7_firsts_27 rfl ?_
      refine wp_aload_n (pc := 29) (i := 0) dX7_firsts_29 rfl rfl ?_
      refine wp_gfr (pc := 30) fk_X7_7 dX7_firsts_30 rfl rfl (by decide) ?_
      refine wp_iconst (pc := 33) (v := nI 0) dX7_firsts_33 rfl ?_
      first | (with_reducible show WP _ _ _ _ _ _ (Value.int (nI _) :: _) _; refine wp_ialdN (pc := 34) dX7_firsts_34 rfl (by omega) (by first | with_reducible assumption | with_reducible exact hs_same _ _ _ _ | rfl) ?_) | refine wp_iald (pc := 34) dX7_firsts_34 rfl (by assumption) rfl ?_
      first | (with_reducible show WP _ _ _ _ _ _ (Value.int (nI _) :: Value.int (nI _) :: _) _; refine wp_icmp_geN (pc := 35) (tgt := 76) dX7_firsts_35 (by decide) (by omega) (by omega) (fun c35 => ?_) (fun c35 => ?_)) | refine wp_icmp_ge (pc := 35) (tgt := 76) dX7_firsts_35 (by decide) (fun c35 => ?_) (fun c35 => ?_)
      refine wp_aload_n (pc := 76) (i := 0) dX7_firsts_76 rfl rfl ?_
      refine wp_iload (pc := 77) (i := 7) dX7_firsts_77 rfl ?_
      refine wp_cV1i (pc := 79) lk_X7_63 dX7_firsts_79 rfl rfl rfl (sp7_well ?_)
      refine wp_iret (pc := 82) dX7_firsts_82 rfl ?_
      rotate_left
      rotate_left
      · rw [show j = gT σ 0 by omega]; exact k _ (RI.st (H.sr hq1.sr)) (hq1.sr.ds.st)
      · exact absurd hjm (by omega)
    | succ m ih =>
      intro j h1 hjm hq1
      have e3 : h1 90 0 = nI (gT σ 0) := by rw [hq1.2 0 (by omega)]; exact e0
      have H1 := H.sr hq1.sr
      have w := fun h2 q => ih (j + 1) h2 (by omega) q
      rw [show orU (fun v => fso (up (gT σ) (32 + g') v) x' (itm σ r' i') n') 0 (j + 1) = orU (fun v => fso (up (gT σ) (32 + g') v) x' (itm σ r' i') n') 0 j ||| (if fso (up (gT σ) (32 + g') (0 + j)) x' (itm σ r' i') n' then 1 * 2 ^ (0 + j) else 0) from rfl, ← Nat.add_assoc] at w
      have hlt := orU_lt (fun v => fso (up (gT σ) (32 + g') v) x' (itm σ r' i') n') 0 j
      have hlt2 : 2 ^ (0 + j) ≤ 2 ^ 6 := Nat.pow_le_pow_right (by decide) (by omega)
      have q1 := okt_fir (v := 0 + j) hOT hg (by omega)
      have it := rr_itm H1 hr hy hi
      refine wp_iload (pc := 27) (i := 8) dX7_firsts_27 rfl ?_
      refine wp_aload_n (pc := 29) (i := 0) dX7_firsts_29 rfl rfl ?_
      refine wp_gfr (pc := 30) fk_X7_7 dX7_firsts_30 rfl rfl (by decide) ?_
      refine wp_iconst (pc := 33) (v := nI 0) dX7_firsts_33 rfl ?_
      first | (with_reducible show WP _ _ _ _ _ _ (Value.int (nI _) :: _) _; refine wp_ialdN (pc := 34) dX7_firsts_34 rfl (by omega) (by first | with_reducible assumption | with_reducible exact hs_same _ _ _ _ | rfl) ?_) | refine wp_iald (pc := 34) dX7_firsts_34 rfl (by assumption) rfl ?_
      first | (with_reducible show WP _ _ _ _ _ _ (Value.int (nI _) :: Value.int (nI _) :: _) _; refine wp_icmp_geN (pc := 35) (tgt := 76) dX7_firsts_35 (by decide) (by omega) (by omega) (fun c35 => ?_) (fun c35 => ?_)) | refine wp_icmp_ge (pc := 35) (tgt := 76) dX7_firsts_35 (by decide) (fun c35 => ?_) (fun c35 => ?_)
      rotate_left
      refine wp_iload (pc := 38) (i := 7) dX7_firsts_38 rfl ?_
      refine wp_aload_n (pc := 40) (i := 0) dX7_firsts_40 rfl rfl ?_
      refine wp_iload_n (pc := 41) (i := 1) dX7_firsts_41 rfl rfl ?_
      refine wp_bipush (pc := 42) (v := nI 32) dX7_firsts_42 rfl ?_
      refine wp_iload_n (pc := 44) (i := 2) dX7_firsts_44 rfl rfl ?_
      first | (with_reducible show WP _ _ _ _ _ _ (Value.int (nI _) :: Value.int (nI _) :: _) _; refine wp_iaddN (pc := 45) dX7_firsts_45 ?_) | refine wp_iadd (pc := 45) dX7_firsts_45 ?_
      refine wp_iload (pc := 46) (i := 8) dX7_firsts_46 rfl ?_
      refine wp_iload_n (pc := 48) (i := 3) dX7_firsts_48 rfl rfl ?_
      refine wp_iload (pc := 49) (i := 4) dX7_firsts_49 rfl ?_
      refine wp_iload (pc := 51) (i := 5) dX7_firsts_51 rfl ?_
      refine wp_cV6i (pc := 53) lk_X7_230 dX7_firsts_53 rfl rfl rfl (sp7_isFedSo H1.1 (by omega) rfl q1 (by rw [up_ne (by omega)]; omega) (by rw [up_ne (by omega)]; exact hx) hr hn (by omega) (by rw [up_ne (by omega)]; exact hd) it (fun h4 hf4 => ?_))
      rotate_left
      · exact absurd hjm (by omega)
      have w := w h4 (hq1.tr hf4)
      first | (with_reducible show WP _ _ _ _ _ _ (Value.int (bI _) :: _) _; refine wp_if_eqB (pc := 56) (tgt := 66) dX7_firsts_56 (by decide) (fun c56 => ?_) (fun c56 => ?_)) | (with_reducible show WP _ _ _ _ _ _ (Value.int (nI _) :: _) _; refine wp_if_eqN (pc := 56) (tgt := 66) dX7_firsts_56 (by decide) (by omega) (fun c56 => ?_) (fun c56 => ?_)) | refine wp_if_eq (pc := 56) (tgt := 66) dX7_firsts_56 (by decide) (fun c56 => ?_) (fun c56 => ?_)
      refine wp_iconst (pc := 66) (v := nI 0) dX7_firsts_66 rfl ?_
      first | (with_reducible show WP _ _ _ _ _ _ (Value.int (nI _) :: Value.int (nI _) :: _) _; refine wp_iorN (pc := 67) dX7_firsts_67 ?_) | refine wp_ior (pc := 67) dX7_firsts_67 ?_
      refine wp_istore (pc := 68) (i := 7) dX7_firsts_68 rfl (by decide) rfl ?_
      dsimp only [List.set_cons_zero, List.set_cons_succ]
      first | refine wp_iincN (pc := 70) (i := 8) (n := 1) dX7_firsts_70 rfl rfl (by decide) rfl ?_ | refine wp_iinc (pc := 70) (i := 8) dX7_firsts_70 rfl rfl rfl (by decide) rfl ?_
      dsimp only [List.set_cons_zero, List.set_cons_succ]
      refine wp_goto (pc := 73) (tgt := 27) dX7_firsts_73 (by decide) ?_
      rotate_left
      refine wp_iconst (pc := 59) (v := nI 1) dX7_firsts_59 rfl ?_
      refine wp_iload (pc := 60) (i := 8) dX7_firsts_60 rfl ?_
      first | (with_reducible show WP _ _ _ _ _ _ (Value.int (nI _) :: Value.int (nI _) :: _) _; refine wp_ishlN (pc := 62) dX7_firsts_62 (by omega) ?_) | refine wp_ishl (pc := 62) dX7_firsts_62 ?_
      refine wp_goto (pc := 63) (tgt := 67) dX7_firsts_63 (by decide) ?_
      first | (with_reducible show WP _ _ _ _ _ _ (Value.int (nI _) :: Value.int (nI _) :: _) _; refine wp_iorN (pc := 67) dX7_firsts_67 ?_) | refine wp_ior (pc := 67) dX7_firsts_67 ?_
      refine wp_istore (pc := 68) (i := 7) dX7_firsts_68 rfl (by decide) rfl ?_
      dsimp only [List.set_cons_zero, List.set_cons_succ]
      first | refine wp_iincN (pc := 70) (i := 8) (n := 1) dX7_firsts_70 rfl rfl (by decide) rfl ?_ | refine wp_iinc (pc := 70) (i := 8) dX7_firsts_70 rfl rfl rfl (by decide) rfl ?_
      dsimp only [List.set_cons_zero, List.set_cons_succ]
      refine wp_goto (pc := 73) (tgt := 27) dX7_firsts_73 (by decide) ?_
      rotate_left
      · rw [c56] at w; exact w
      · rw [c56] at w; exact w
  refine wp_istore (pc := 11) (i := 6) dX7_firsts_11 rfl (by decide) rfl ?_
  dsimp only [List.set_cons_zero, List.set_cons_succ]
  refine wp_iload (pc := 13) (i := 6) dX7_firsts_13 rfl ?_
  first | (with_reducible show WP _ _ _ _ _ _ (Value.int (bI _) :: _) _; refine wp_if_eqB (pc := 15) (tgt := 21) dX7_firsts_15 (by decide) (fun c15 => ?_) (fun c15 => ?_)) | (with_reducible show WP _ _ _ _ _ _ (Value.int (nI _) :: _) _; refine wp_if_eqN (pc := 15) (tgt := 21) dX7_firsts_15 (by decide) (by omega) (fun c15 => ?_) (fun c15 => ?_)) | refine wp_if_eq (pc := 15) (tgt := 21) dX7_firsts_15 (by decide) (fun c15 => ?_) (fun c15 => ?_)
  refine wp_iconst (pc := 21) (v := nI 0) dX7_firsts_21 rfl ?_
  refine wp_istore (pc := 22) (i := 7) dX7_firsts_22 rfl (by decide) rfl ?_
  dsimp only [List.set_cons_zero, List.set_cons_succ]
  refine wp_iconst (pc := 24) (v := nI 0) dX7_firsts_24 rfl ?_
  refine wp_istore (pc := 25) (i := 8) dX7_firsts_25 rfl (by decide) rfl ?_
  dsimp only [List.set_cons_zero, List.set_cons_succ]
  rotate_left
  rotate_left
  · exact loop (gT σ 0) 0 _ (by omega) (FB.rf h 1512)
  · exact absurd rfl c15
theorem sr_steps {x g r i n : Int32} {K : Int32 → Hp → Prop} (H : RI h σ) (hO : OKS σ) (k : ∀ h', RI h' (fSteps σ x g r i n).2 → DS h h' → K (fSteps σ x g r i n).1 h') : Call G (d + 5) mX7_steps [.ref 89, .int x, .int g, .int r, .int i, .int n] h (pI K) := by
  have hOT := hO.1.1
  have hd := hO.1.2
  obtain ⟨o0, o1, o2, o3, o4, o5, o6, o7, o8⟩ := id hOT
  refine Call.of (M := mX7_steps) (n := 3) (by decide +kernel) rfl ?_
  show WP _ _ _ _ 0 [some (.ref 89), some (.int x), some (.int g), some (.int r), some (.int i), some (.int n), none, none, none] [] _
  refine wp_aload_n (pc := 0) (i := 0) dX7_steps_0 rfl rfl ?_
  refine wp_iload_n (pc := 1) (i := 1) dX7_steps_1 rfl rfl ?_
  refine wp_iload_n (pc := 2) (i := 2) dX7_steps_2 rfl rfl ?_
  refine wp_iload_n (pc := 3) (i := 3) dX7_steps_3 rfl rfl ?_
  refine wp_iload (pc := 4) (i := 4) dX7_steps_4 rfl ?_
  refine wp_iload (pc := 6) (i := 5) dX7_steps_6 rfl ?_
  rotate_left
  refine wp_cV5i (pc := 8) lk_X7_226 dX7_steps_8 rfl rfl rfl (sp7_noItems H hO (fun v s e1 e2 h1 H1 hr1 => ?_) (fun e1 => ?_))
  · rw [fSteps, toldA, e1] at k
    refine wp_istore (pc := 11) (i := 6) dX7_steps_11 rfl (by decide) rfl ?_
    dsimp only [List.set_cons_zero, List.set_cons_succ]
    refine wp_iload (pc := 13) (i := 6) dX7_steps_13 rfl ?_
    rotate_left
    refine wp_if_eq (pc := 15) (tgt := 21) dX7_steps_15 (by decide) (fun c15 => absurd c15 e2) (fun c15 => ?_)
    refine wp_iload (pc := 18) (i := 6) dX7_steps_18 rfl ?_
    refine wp_iret (pc := 20) dX7_steps_20 rfl ?_
    rotate_left
    exact k h1 H1 hr1
  rw [fSteps, toldA, e1] at k
  obtain ⟨x', g', r', i', n', y, rfl, rfl, rfl, rfl, rfl, hx, hg, hr, hn1, hn, hy, hi⟩ := told_none o1 o0 e1
  have hy4 := (hO.2.2.2.1 r' y hy).2
  rw [nI_clamp (show x' < 2 ^ 31 by omega), nI_clamp (show g' < 2 ^ 31 by omega), nI_clamp (show r' < 2 ^ 31 by omega), nI_clamp (show i' < 2 ^ 31 by omega), nI_clamp (show n' < 2 ^ 31 by omega)] at k
  have e0 : h 90 0 = nI (gT σ 0) := H.1 0 (by omega)
  have loop : ∀ m j h1, j + m = 5 → FB h h1 1512 → WP G (d + 5) mX7_steps (pI K) 27 [some (.ref 89), some (.int (nI x')), some (.int (nI g')), some (.int (nI r')), some (.int (nI i')), some (.int (nI n')), some (.int (nI 0)), some (.int (nI (orU (fun v => fso (up (gT σ) (38 + g') v) x' (itm σ r' i') n') 0 j))), some (.int (nI (0 + j)))] [] h1 := by
    intro m
    induction m with
    | zero =>
      intro j h1 hjm hq1
      have e3 : h1 90 0 = nI (gT σ 0) := by rw [hq1.2 0 (by omega)]; exact e0
      refine wp_iload (pc := 27) (i := 8) dX7_steps_27 rfl ?_
      refine wp_iconst (pc := 29) (v := nI 5) dX7_steps_29 rfl ?_
      first | (with_reducible show WP _ _ _ _ _ _ (Value.int (nI _) :: Value.int (nI _) :: _) _; refine wp_icmp_geN (pc := 30) (tgt := 71) dX7_steps_30 (by decide) (by omega) (by omega) (fun c30 => ?_) (fun c30 => ?_)) | refine wp_icmp_ge (pc := 30) (tgt := 71) dX7_steps_30 (by decide) (fun c30 => ?_) (fun c30 => ?_)
      refine wp_aload_n (pc := 71) (i := 0) dX7_steps_71 rfl rfl ?_
      refine wp_iload (pc := 72) (i := 7) dX7_steps_72 rfl ?_
      refine wp_cV1i (pc := 74) lk_X7_63 dX7_steps_74 rfl rfl rfl (sp7_well ?_)
      refine wp_iret (pc := 77) dX7_steps_77 rfl ?_
      rotate_left
      rotate_left
      · rw [show j = 5 by omega]; exact k _ (RI.st (H.sr hq1.sr)) (hq1.sr.ds.st)
      · exact absurd hjm (by omega)
    | succ m ih =>
      intro j h1 hjm hq1
      have e3 : h1 90 0 = nI (gT σ 0) := by rw [hq1.2 0 (by omega)]; exact e0
      have H1 := H.sr hq1.sr
      have w := fun h2 q => ih (j + 1) h2 (by omega) q
      rw [show orU (fun v => fso (up (gT σ) (38 + g') v) x' (itm σ r' i') n') 0 (j + 1) = orU (fun v => fso (up (gT σ) (38 + g') v) x' (itm σ r' i') n') 0 j ||| (if fso (up (gT σ) (38 + g') (0 + j)) x' (itm σ r' i') n' then 1 * 2 ^ (0 + j) else 0) from rfl, ← Nat.add_assoc] at w
      have hlt := orU_lt (fun v => fso (up (gT σ) (38 + g') v) x' (itm σ r' i') n') 0 j
      have hlt2 : 2 ^ (0 + j) ≤ 2 ^ 6 := Nat.pow_le_pow_right (by decide) (by omega)
      have q1 := okt_ste (v := 0 + j) hOT hg (by omega)
      have it := rr_itm H1 hr hy hi
      refine wp_iload (pc := 27) (i := 8) dX7_steps_27 rfl ?_
      refine wp_iconst (pc := 29) (v := nI 5) dX7_steps_29 rfl ?_
      first | (with_reducible show WP _ _ _ _ _ _ (Value.int (nI _) :: Value.int (nI _) :: _) _; refine wp_icmp_geN (pc := 30) (tgt := 71) dX7_steps_30 (by decide) (by omega) (by omega) (fun c30 => ?_) (fun c30 => ?_)) | refine wp_icmp_ge (pc := 30) (tgt := 71) dX7_steps_30 (by decide) (fun c30 => ?_) (fun c30 => ?_)
      rotate_left
      refine wp_iload (pc := 33) (i := 7) dX7_steps_33 rfl ?_
      refine wp_aload_n (pc := 35) (i := 0) dX7_steps_35 rfl rfl ?_
      refine wp_iload_n (pc := 36) (i := 1) dX7_steps_36 rfl rfl ?_
      refine wp_bipush (pc := 37) (v := nI 38) dX7_steps_37 rfl ?_
      refine wp_iload_n (pc := 39) (i := 2) dX7_steps_39 rfl rfl ?_
      first | (with_reducible show WP _ _ _ _ _ _ (Value.int (nI _) :: Value.int (nI _) :: _) _; refine wp_iaddN (pc := 40) dX7_steps_40 ?_) | refine wp_iadd (pc := 40) dX7_steps_40 ?_
      refine wp_iload (pc := 41) (i := 8) dX7_steps_41 rfl ?_
      refine wp_iload_n (pc := 43) (i := 3) dX7_steps_43 rfl rfl ?_
      refine wp_iload (pc := 44) (i := 4) dX7_steps_44 rfl ?_
      refine wp_iload (pc := 46) (i := 5) dX7_steps_46 rfl ?_
      refine wp_cV6i (pc := 48) lk_X7_230 dX7_steps_48 rfl rfl rfl (sp7_isFedSo H1.1 (by omega) rfl q1 (by rw [up_ne (by omega)]; omega) (by rw [up_ne (by omega)]; exact hx) hr hn (by omega) (by rw [up_ne (by omega)]; exact hd) it (fun h4 hf4 => ?_))
      rotate_left
      · exact absurd hjm (by omega)
      have w := w h4 (hq1.tr hf4)
      first | (with_reducible show WP _ _ _ _ _ _ (Value.int (bI _) :: _) _; refine wp_if_eqB (pc := 51) (tgt := 61) dX7_steps_51 (by decide) (fun c51 => ?_) (fun c51 => ?_)) | (with_reducible show WP _ _ _ _ _ _ (Value.int (nI _) :: _) _; refine wp_if_eqN (pc := 51) (tgt := 61) dX7_steps_51 (by decide) (by omega) (fun c51 => ?_) (fun c51 => ?_)) | refine wp_if_eq (pc := 51) (tgt := 61) dX7_steps_51 (by decide) (fun c51 => ?_) (fun c51 => ?_)
      refine wp_iconst (pc := 61) (v := nI 0) dX7_steps_61 rfl ?_
      first | (with_reducible show WP _ _ _ _ _ _ (Value.int (nI _) :: Value.int (nI _) :: _) _; refine wp_iorN (pc := 62) dX7_steps_62 ?_) | refine wp_ior (pc := 62) dX7_steps_62 ?_
      refine wp_istore (pc := 63) (i := 7) dX7_steps_63 rfl (by decide) rfl ?_
      dsimp only [List.set_cons_zero, List.set_cons_succ]
      first | refine wp_iincN (pc := 65) (i := 8) (n := 1) dX7_steps_65 rfl rfl (by decide) rfl ?_ | refine wp_iinc (pc := 65) (i := 8) dX7_steps_65 rfl rfl rfl (by decide) rfl ?_
      dsimp only [List.set_cons_zero, List.set_cons_succ]
      refine wp_goto (pc := 68) (tgt := 27) dX7_steps_68 (by decide) ?_
      rotate_left
      refine wp_iconst (pc := 54) (v := nI 1) dX7_steps_54 rfl ?_
      refine wp_iload (pc := 55) (i := 8) dX7_steps_55 rfl ?_
      first | (with_reducible show WP _ _ _ _ _ _ (Value.int (nI _) :: Value.int (nI _) :: _) _; refine wp_ishlN (pc := 57) dX7_steps_57 (by omega) ?_) | refine wp_ishl (pc := 57) dX7_steps_57 ?_
      refine wp_goto (pc := 58) (tgt := 62) dX7_steps_58 (by decide) ?_
      first | (with_reducible show WP _ _ _ _ _ _ (Value.int (nI _) :: Value.int (nI _) :: _) _; refine wp_iorN (pc := 62) dX7_steps_62 ?_) | refine wp_ior (pc := 62) dX7_steps_62 ?_
      refine wp_istore (pc := 63) (i := 7) dX7_steps_63 rfl (by decide) rfl ?_
      dsimp only [List.set_cons_zero, List.set_cons_succ]
      first | refine wp_iincN (pc := 65) (i := 8) (n := 1) dX7_steps_65 rfl rfl (by decide) rfl ?_ | refine wp_iinc (pc := 65) (i := 8) dX7_steps_65 rfl rfl rfl (by decide) rfl ?_
      dsimp only [List.set_cons_zero, List.set_cons_succ]
      refine wp_goto (pc := 68) (tgt := 27) dX7_steps_68 (by decide) ?_
      rotate_left
      · rw [c51] at w; exact w
      · rw [c51] at w; exact w
  refine wp_istore (pc := 11) (i := 6) dX7_steps_11 rfl (by decide) rfl ?_
  dsimp only [List.set_cons_zero, List.set_cons_succ]
  refine wp_iload (pc := 13) (i := 6) dX7_steps_13 rfl ?_
  first | (with_reducible show WP _ _ _ _ _ _ (Value.int (bI _) :: _) _; refine wp_if_eqB (pc := 15) (tgt := 21) dX7_steps_15 (by decide) (fun c15 => ?_) (fun c15 => ?_)) | (with_reducible show WP _ _ _ _ _ _ (Value.int (nI _) :: _) _; refine wp_if_eqN (pc := 15) (tgt := 21) dX7_steps_15 (by decide) (by omega) (fun c15 => ?_) (fun c15 => ?_)) | refine wp_if_eq (pc := 15) (tgt := 21) dX7_steps_15 (by decide) (fun c15 => ?_) (fun c15 => ?_)
  refine wp_iconst (pc := 21) (v := nI 0) dX7_steps_21 rfl ?_
  refine wp_istore (pc := 22) (i := 7) dX7_steps_22 rfl (by decide) rfl ?_
  dsimp only [List.set_cons_zero, List.set_cons_succ]
  refine wp_iconst (pc := 24) (v := nI 0) dX7_steps_24 rfl ?_
  refine wp_istore (pc := 25) (i := 8) dX7_steps_25 rfl (by decide) rfl ?_
  dsimp only [List.set_cons_zero, List.set_cons_succ]
  rotate_left
  rotate_left
  · exact loop (5) 0 _ (by omega) (FB.rf h 1512)
  · exact absurd rfl c15
end RWHO
