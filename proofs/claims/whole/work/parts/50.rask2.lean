section RASK2
variable {G : Gt} {d : Nat} {h : Hp} {σ : Sg} {T : Tn}
theorem sp7_isOf {g n : Nat} {K : Int32 → Hp → Prop} (hR : RW h 0 T) (hO : OKT T) (hg : g < T 1) (hn : n ≤ 5) (k : K (bI (ofK (T (20 + g)) n)) h) : Call G d mX7_isOf [.ref 89, .int (nI g), .int (nI n)] h (pI K) := by
  obtain ⟨o0, o1, o2, o3, o4, o5, o6, o7, o8⟩ := id hO
  have q := (o7 g hg).1
  have e : h 90 (20 + g) = nI (T (20 + g)) := by have := hR (20 + g) (by omega); rw [Nat.zero_add] at this; exact this
  have yes : (n = 0 ∨ n = T (20 + g) ∨ (n = 1 ∧ (T (20 + g) = 2 ∨ T (20 + g) = 3)) ∨ (n = 4 ∧ T (20 + g) = 5)) → K (bI true) h := fun z => by rw [ofK, decide_eq_true z] at k; exact k
  have no : ¬ (n = 0 ∨ n = T (20 + g) ∨ (n = 1 ∧ (T (20 + g) = 2 ∨ T (20 + g) = 3)) ∨ (n = 4 ∧ T (20 + g) = 5)) → K (bI false) h := fun z => by rw [ofK, decide_eq_false z] at k; exact k
  refine Call.of (M := mX7_isOf) (n := 1) (by decide +kernel) rfl ?_
  show WP _ _ _ _ 0 [some (.ref 89), some (.int (nI g)), some (.int (nI n)), none] [] _
  refine wp_aload_n (pc := 0) (i := 0) dX7_isOf_0 rfl rfl ?_
  refine wp_gfr (pc := 1) fk_X7_7 dX7_isOf_1 rfl rfl (by decide) ?_
  refine wp_bipush (pc := 4) (v := nI 20) dX7_isOf_4 rfl ?_
  refine wp_iload_n (pc := 6) (i := 1) dX7_isOf_6 rfl rfl ?_
  first | (with_reducible show WP _ _ _ _ _ _ (Value.int (nI _) :: Value.int (nI _) :: _) _; refine wp_iaddN (pc := 7) dX7_isOf_7 ?_) | refine wp_iadd (pc := 7) dX7_isOf_7 ?_
  first | (with_reducible show WP _ _ _ _ _ _ (Value.int (nI _) :: _) _; refine wp_ialdN (pc := 8) dX7_isOf_8 rfl (by omega) (by first | with_reducible assumption | with_reducible exact hs_same _ _ _ _ | rfl) ?_) | refine wp_iald (pc := 8) dX7_isOf_8 rfl (by assumption) rfl ?_
  refine wp_istore_n (pc := 9) (i := 3) dX7_isOf_9 rfl rfl (by decide) rfl ?_
  dsimp only [List.set_cons_zero, List.set_cons_succ]
  refine wp_iload_n (pc := 10) (i := 2) dX7_isOf_10 rfl rfl ?_
  first | (with_reducible show WP _ _ _ _ _ _ (Value.int (bI _) :: _) _; refine wp_if_eqB (pc := 11) (tgt := 44) dX7_isOf_11 (by decide) (fun c11 => ?_) (fun c11 => ?_)) | (with_reducible show WP _ _ _ _ _ _ (Value.int (nI _) :: _) _; refine wp_if_eqN (pc := 11) (tgt := 44) dX7_isOf_11 (by decide) (by omega) (fun c11 => ?_) (fun c11 => ?_)) | refine wp_if_eq (pc := 11) (tgt := 44) dX7_isOf_11 (by decide) (fun c11 => ?_) (fun c11 => ?_)
  refine wp_iconst (pc := 44) (v := nI 1) dX7_isOf_44 rfl ?_
  refine wp_goto (pc := 45) (tgt := 49) dX7_isOf_45 (by decide) ?_
  refine wp_zret (pc := 49) dX7_isOf_49 rfl (by first | exact Or.inl rfl | exact Or.inr rfl | assumption | exact bI_01 _) ?_
  rotate_left
  refine wp_iload_n (pc := 14) (i := 2) dX7_isOf_14 rfl rfl ?_
  refine wp_iload_n (pc := 15) (i := 3) dX7_isOf_15 rfl rfl ?_
  first | (with_reducible show WP _ _ _ _ _ _ (Value.int (nI _) :: Value.int (nI _) :: _) _; refine wp_icmp_eqN (pc := 16) (tgt := 44) dX7_isOf_16 (by decide) (by omega) (by omega) (fun c16 => ?_) (fun c16 => ?_)) | refine wp_icmp_eq (pc := 16) (tgt := 44) dX7_isOf_16 (by decide) (fun c16 => ?_) (fun c16 => ?_)
  refine wp_iconst (pc := 44) (v := nI 1) dX7_isOf_44 rfl ?_
  refine wp_goto (pc := 45) (tgt := 49) dX7_isOf_45 (by decide) ?_
  refine wp_zret (pc := 49) dX7_isOf_49 rfl (by first | exact Or.inl rfl | exact Or.inr rfl | assumption | exact bI_01 _) ?_
  rotate_left
  refine wp_iload_n (pc := 19) (i := 2) dX7_isOf_19 rfl rfl ?_
  refine wp_iconst (pc := 20) (v := nI 1) dX7_isOf_20 rfl ?_
  first | (with_reducible show WP _ _ _ _ _ _ (Value.int (nI _) :: Value.int (nI _) :: _) _; refine wp_icmp_neN (pc := 21) (tgt := 34) dX7_isOf_21 (by decide) (by omega) (by omega) (fun c21 => ?_) (fun c21 => ?_)) | refine wp_icmp_ne (pc := 21) (tgt := 34) dX7_isOf_21 (by decide) (fun c21 => ?_) (fun c21 => ?_)
  refine wp_iload_n (pc := 34) (i := 2) dX7_isOf_34 rfl rfl ?_
  refine wp_iconst (pc := 35) (v := nI 4) dX7_isOf_35 rfl ?_
  first | (with_reducible show WP _ _ _ _ _ _ (Value.int (nI _) :: Value.int (nI _) :: _) _; refine wp_icmp_neN (pc := 36) (tgt := 48) dX7_isOf_36 (by decide) (by omega) (by omega) (fun c36 => ?_) (fun c36 => ?_)) | refine wp_icmp_ne (pc := 36) (tgt := 48) dX7_isOf_36 (by decide) (fun c36 => ?_) (fun c36 => ?_)
  refine wp_iconst (pc := 48) (v := nI 0) dX7_isOf_48 rfl ?_
  refine wp_zret (pc := 49) dX7_isOf_49 rfl (by first | exact Or.inl rfl | exact Or.inr rfl | assumption | exact bI_01 _) ?_
  rotate_left
  refine wp_iload_n (pc := 39) (i := 3) dX7_isOf_39 rfl rfl ?_
  refine wp_iconst (pc := 40) (v := nI 5) dX7_isOf_40 rfl ?_
  first | (with_reducible show WP _ _ _ _ _ _ (Value.int (nI _) :: Value.int (nI _) :: _) _; refine wp_icmp_neN (pc := 41) (tgt := 48) dX7_isOf_41 (by decide) (by omega) (by omega) (fun c41 => ?_) (fun c41 => ?_)) | refine wp_icmp_ne (pc := 41) (tgt := 48) dX7_isOf_41 (by decide) (fun c41 => ?_) (fun c41 => ?_)
  refine wp_iconst (pc := 48) (v := nI 0) dX7_isOf_48 rfl ?_
  refine wp_zret (pc := 49) dX7_isOf_49 rfl (by first | exact Or.inl rfl | exact Or.inr rfl | assumption | exact bI_01 _) ?_
  rotate_left
  refine wp_iconst (pc := 44) (v := nI 1) dX7_isOf_44 rfl ?_
  refine wp_goto (pc := 45) (tgt := 49) dX7_isOf_45 (by decide) ?_
  refine wp_zret (pc := 49) dX7_isOf_49 rfl (by first | exact Or.inl rfl | exact Or.inr rfl | assumption | exact bI_01 _) ?_
  rotate_left
  refine wp_iload_n (pc := 24) (i := 3) dX7_isOf_24 rfl rfl ?_
  refine wp_iconst (pc := 25) (v := nI 2) dX7_isOf_25 rfl ?_
  first | (with_reducible show WP _ _ _ _ _ _ (Value.int (nI _) :: Value.int (nI _) :: _) _; refine wp_icmp_eqN (pc := 26) (tgt := 44) dX7_isOf_26 (by decide) (by omega) (by omega) (fun c26 => ?_) (fun c26 => ?_)) | refine wp_icmp_eq (pc := 26) (tgt := 44) dX7_isOf_26 (by decide) (fun c26 => ?_) (fun c26 => ?_)
  refine wp_iconst (pc := 44) (v := nI 1) dX7_isOf_44 rfl ?_
  refine wp_goto (pc := 45) (tgt := 49) dX7_isOf_45 (by decide) ?_
  refine wp_zret (pc := 49) dX7_isOf_49 rfl (by first | exact Or.inl rfl | exact Or.inr rfl | assumption | exact bI_01 _) ?_
  rotate_left
  refine wp_iload_n (pc := 29) (i := 3) dX7_isOf_29 rfl rfl ?_
  refine wp_iconst (pc := 30) (v := nI 3) dX7_isOf_30 rfl ?_
  first | (with_reducible show WP _ _ _ _ _ _ (Value.int (nI _) :: Value.int (nI _) :: _) _; refine wp_icmp_eqN (pc := 31) (tgt := 44) dX7_isOf_31 (by decide) (by omega) (by omega) (fun c31 => ?_) (fun c31 => ?_)) | refine wp_icmp_eq (pc := 31) (tgt := 44) dX7_isOf_31 (by decide) (fun c31 => ?_) (fun c31 => ?_)
  refine wp_iconst (pc := 44) (v := nI 1) dX7_isOf_44 rfl ?_
  refine wp_goto (pc := 45) (tgt := 49) dX7_isOf_45 (by decide) ?_
  refine wp_zret (pc := 49) dX7_isOf_49 rfl (by first | exact Or.inl rfl | exact Or.inr rfl | assumption | exact bI_01 _) ?_
  rotate_left
  refine wp_iload_n (pc := 34) (i := 2) dX7_isOf_34 rfl rfl ?_
  refine wp_iconst (pc := 35) (v := nI 4) dX7_isOf_35 rfl ?_
  first | (with_reducible show WP _ _ _ _ _ _ (Value.int (nI _) :: Value.int (nI _) :: _) _; refine wp_icmp_neN (pc := 36) (tgt := 48) dX7_isOf_36 (by decide) (by omega) (by omega) (fun c36 => ?_) (fun c36 => ?_)) | refine wp_icmp_ne (pc := 36) (tgt := 48) dX7_isOf_36 (by decide) (fun c36 => ?_) (fun c36 => ?_)
  refine wp_iconst (pc := 48) (v := nI 0) dX7_isOf_48 rfl ?_
  refine wp_zret (pc := 49) dX7_isOf_49 rfl (by first | exact Or.inl rfl | exact Or.inr rfl | assumption | exact bI_01 _) ?_
  rotate_left
  refine wp_iload_n (pc := 39) (i := 3) dX7_isOf_39 rfl rfl ?_
  refine wp_iconst (pc := 40) (v := nI 5) dX7_isOf_40 rfl ?_
  first | (with_reducible show WP _ _ _ _ _ _ (Value.int (nI _) :: Value.int (nI _) :: _) _; refine wp_icmp_neN (pc := 41) (tgt := 48) dX7_isOf_41 (by decide) (by omega) (by omega) (fun c41 => ?_) (fun c41 => ?_)) | refine wp_icmp_ne (pc := 41) (tgt := 48) dX7_isOf_41 (by decide) (fun c41 => ?_) (fun c41 => ?_)
  refine wp_iconst (pc := 48) (v := nI 0) dX7_isOf_48 rfl ?_
  refine wp_zret (pc := 49) dX7_isOf_49 rfl (by first | exact Or.inl rfl | exact Or.inr rfl | assumption | exact bI_01 _) ?_
  rotate_left
  refine wp_iconst (pc := 44) (v := nI 1) dX7_isOf_44 rfl ?_
  refine wp_goto (pc := 45) (tgt := 49) dX7_isOf_45 (by decide) ?_
  refine wp_zret (pc := 49) dX7_isOf_49 rfl (by first | exact Or.inl rfl | exact Or.inr rfl | assumption | exact bI_01 _) ?_
  rotate_left
  all_goals first | exact yes (by omega) | exact no (by omega)
theorem sr_as {x n : Int32} {K : Int32 → Hp → Prop} (H : RI h σ) (hO : OKT (gT σ)) (k : ∀ h', RI h' (fAs σ x n).2 → DS h h' → K (fAs σ x n).1 h') : Call G (d + 2) mX7_as [.ref 89, .int x, .int n] h (pI K) := by
  have o1 := hO.2.1
  refine Call.of (M := mX7_as) (n := 0) (by decide +kernel) rfl ?_
  show WP _ _ _ _ 0 [some (.ref 89), some (.int x), some (.int n)] [] _
  refine wp_aload_n (pc := 0) (i := 0) dX7_as_0 rfl rfl ?_
  refine wp_iload_n (pc := 1) (i := 1) dX7_as_1 rfl rfl ?_
  refine wp_cV1i (pc := 2) lk_X7_176 dX7_as_2 rfl rfl rfl (sp7_isGran H.1 hO ?_)
  first | (with_reducible show WP _ _ _ _ _ _ (Value.int (bI _) :: _) _; refine wp_if_eqB (pc := 5) (tgt := 20) dX7_as_5 (by decide) (fun c5 => ?_) (fun c5 => ?_)) | (with_reducible show WP _ _ _ _ _ _ (Value.int (nI _) :: _) _; refine wp_if_eqN (pc := 5) (tgt := 20) dX7_as_5 (by decide) (by omega) (fun c5 => ?_) (fun c5 => ?_)) | refine wp_if_eq (pc := 5) (tgt := 20) dX7_as_5 (by decide) (fun c5 => ?_) (fun c5 => ?_)
  refine wp_ldc (pc := 20) kn_X7_58 dX7_as_20 ?_
  refine wp_iret (pc := 22) dX7_as_22 rfl ?_
  rotate_left
  refine wp_iload_n (pc := 8) (i := 2) dX7_as_8 rfl rfl ?_
  first | (with_reducible show WP _ _ _ _ _ _ (Value.int (nI _) :: _) _; refine wp_i2lN (pc := 9) dX7_as_9 (by omega) ?_) | refine wp_i2l (pc := 9) dX7_as_9 rfl ?_
  refine wp_lconst (pc := 10) (v := lN 0) dX7_as_10 rfl ?_
  refine wp_ldc2 (pc := 11) kn_X7_247 dX7_as_11 ?_
  refine wp_cS3i (pc := 14) lk_X7_48 dX7_as_14 rfl (sp7_btw (by decide) (by decide) ?_)
  first | (with_reducible show WP _ _ _ _ _ _ (Value.int (bI _) :: _) _; refine wp_if_neB (pc := 17) (tgt := 23) dX7_as_17 (by decide) (fun c17 => ?_) (fun c17 => ?_)) | (with_reducible show WP _ _ _ _ _ _ (Value.int (nI _) :: _) _; refine wp_if_neN (pc := 17) (tgt := 23) dX7_as_17 (by decide) (by omega) (fun c17 => ?_) (fun c17 => ?_)) | refine wp_if_ne (pc := 17) (tgt := 23) dX7_as_17 (by decide) (fun c17 => ?_) (fun c17 => ?_)
  rotate_left
  refine wp_ldc (pc := 20) kn_X7_58 dX7_as_20 ?_
  refine wp_iret (pc := 22) dX7_as_22 rfl ?_
  rotate_left
  · rw [fAs, c5] at k; exact k h H DS.rf
  rotate_left
  · rw [fAs, c5, c17] at k; exact k h H DS.rf
  rw [fAs, c5, c17] at k
  obtain ⟨g, hg, rfl⟩ := inN_t (by omega) c5
  obtain ⟨m, -, hm, rfl⟩ := btw_t (by decide) c17
  rw [nI_clamp (show g < 2 ^ 31 by omega), nI_clamp (show m < 2 ^ 31 by omega)] at k
  refine wp_aload_n (pc := 23) (i := 0) dX7_as_23 rfl rfl ?_
  refine wp_iload_n (pc := 24) (i := 1) dX7_as_24 rfl rfl ?_
  refine wp_iload_n (pc := 25) (i := 2) dX7_as_25 rfl rfl ?_
  refine wp_cV2i (pc := 26) lk_X7_252 dX7_as_26 rfl rfl rfl (sp7_isOf H.1 hO hg hm ?_)
  first | (with_reducible show WP _ _ _ _ _ _ (Value.int (bI _) :: _) _; refine wp_if_eqB (pc := 29) (tgt := 40) dX7_as_29 (by decide) (fun c29 => ?_) (fun c29 => ?_)) | (with_reducible show WP _ _ _ _ _ _ (Value.int (nI _) :: _) _; refine wp_if_eqN (pc := 29) (tgt := 40) dX7_as_29 (by decide) (by omega) (fun c29 => ?_) (fun c29 => ?_)) | refine wp_if_eq (pc := 29) (tgt := 40) dX7_as_29 (by decide) (fun c29 => ?_) (fun c29 => ?_)
  refine wp_aload_n (pc := 40) (i := 0) dX7_as_40 rfl rfl ?_
  refine wp_iconst (pc := 41) (v := nI 3) dX7_as_41 rfl ?_
  refine wp_cV1i (pc := 42) lk_X7_59 dX7_as_42 rfl rfl rfl (sp7_find ?_)
  refine wp_iret (pc := 45) dX7_as_45 rfl ?_
  rotate_left
  refine wp_aload_n (pc := 32) (i := 0) dX7_as_32 rfl rfl ?_
  refine wp_iload_n (pc := 33) (i := 1) dX7_as_33 rfl rfl ?_
  refine wp_cV1i (pc := 34) lk_X7_63 dX7_as_34 rfl rfl rfl (sp7_well ?_)
  refine wp_goto (pc := 37) (tgt := 45) dX7_as_37 (by decide) ?_
  refine wp_iret (pc := 45) dX7_as_45 rfl ?_
  rotate_left
  · rw [c29] at k; exact k _ H.st DS.rf.st
  · rw [c29] at k; exact k _ H.st DS.rf.st
def FT (h h' : Hp) : Prop := (∀ q, q ≠ 89 → q ≠ 96 → h' q = h q) ∧ ∀ q, q ≠ 12 → h' 89 q = h 89 q
theorem FT.tr {h1 h2 : Hp} (x : FT h h1) (y : FT h1 h2) : FT h h2 := ⟨fun q a b => (y.1 q a b).trans (x.1 q a b), fun q a => (y.2 q a).trans (x.2 q a)⟩
theorem RW.ft {h' : Hp} (hR : RW h 0 T) (x : FT h h') : RW h' 0 T := hR.cg (fun q _ _ => by rw [x.1 90 (by decide) (by decide)])
variable {L : List Nat}
theorem sp7_begin {n : Nat} {K : Hp → Prop} (hA : RK h L) (hR : RW h 0 T) (hL : L.length < 16) (kk : ∀ h', RK h' (L ++ [n]) → RW h' 0 T → FT h h' → K h') : Call G d mX7_begin [.ref 89, .int (nI n)] h (pV K) := by
  obtain ⟨a1, a2⟩ := hA
  have a3 : hs h 96 L.length (nI n) 89 12 = nI L.length := by rw [hs_ne (by decide)]; exact a1
  refine Call.of (M := mX7_begin) (n := 0) (by decide +kernel) rfl ?_
  show WP _ _ _ _ 0 [some (.ref 89), some (.int (nI n))] [] _
  refine wp_aload_n (pc := 0) (i := 0) dX7_begin_0 rfl rfl ?_
  refine wp_gfv (pc := 1) fk_X7_255 dX7_begin_1 rfl rfl (by first | with_reducible assumption | with_reducible exact hs_same _ _ _ _ | rfl) ?_
  refine wp_bipush (pc := 4) (v := nI 16) dX7_begin_4 rfl ?_
  first | (with_reducible show WP _ _ _ _ _ _ (Value.int (nI _) :: Value.int (nI _) :: _) _; refine wp_icmp_geN (pc := 6) (tgt := 29) dX7_begin_6 (by decide) (by omega) (by omega) (fun c6 => ?_) (fun c6 => ?_)) | refine wp_icmp_ge (pc := 6) (tgt := 29) dX7_begin_6 (by decide) (fun c6 => ?_) (fun c6 => ?_)
  rotate_left
  refine wp_aload_n (pc := 9) (i := 0) dX7_begin_9 rfl rfl ?_
  refine wp_gfr (pc := 10) fk_X7_29 dX7_begin_10 rfl rfl (by decide) ?_
  refine wp_aload_n (pc := 13) (i := 0) dX7_begin_13 rfl rfl ?_
  refine wp_gfv (pc := 14) fk_X7_255 dX7_begin_14 rfl rfl (by first | with_reducible assumption | with_reducible exact hs_same _ _ _ _ | rfl) ?_
  refine wp_iload_n (pc := 17) (i := 1) dX7_begin_17 rfl rfl ?_
  first | (with_reducible show WP _ _ _ _ _ _ (_ :: Value.int (nI _) :: _) _; refine wp_iastN (pc := 18) dX7_begin_18 rfl (by omega) ?_) | refine wp_iast (pc := 18) dX7_begin_18 rfl (by assumption) rfl ?_
  refine wp_aload_n (pc := 19) (i := 0) dX7_begin_19 rfl rfl ?_
  refine wp_dup (pc := 20) dX7_begin_20 rfl ?_
  refine wp_gfv (pc := 21) fk_X7_255 dX7_begin_21 rfl rfl (by first | with_reducible assumption | with_reducible exact hs_same _ _ _ _ | rfl) ?_
  refine wp_iconst (pc := 24) (v := nI 1) dX7_begin_24 rfl ?_
  first | (with_reducible show WP _ _ _ _ _ _ (Value.int (nI _) :: Value.int (nI _) :: _) _; refine wp_iaddN (pc := 25) dX7_begin_25 ?_) | refine wp_iadd (pc := 25) dX7_begin_25 ?_
  refine wp_pf (pc := 26) fp_X7_255 dX7_begin_26 rfl rfl rfl rfl ?_
  rotate_left
  · exact absurd c6 (by omega)
  refine wp_vret (pc := 29) dX7_begin_29 rfl ?_
  rotate_left
  have hf : FT h (hs (hs h 96 L.length (nI n)) 89 12 (nI (L.length + 1))) := ⟨fun q h1 h2 => by rw [hs_ne h1, hs_ne h2], fun q hq => by rw [hs_ix hq, hs_ne (by decide)]⟩
  refine kk _ ⟨?_, fun i b hb => ?_⟩ (hR.ft hf) hf
  · rw [hs_same, List.length_append]; rfl
  · by_cases z : i < L.length
    · rw [List.getElem?_append_left z] at hb
      rw [hs_ne (by decide), hs_ix (by omega)]; exact a2 i b hb
    · rw [List.getElem?_append_right (by omega)] at hb
      have : i - L.length < 1 := (List.getElem?_eq_some_iff.mp hb).1
      rw [show i - L.length = 0 by omega] at hb
      cases hb
      rw [show i = L.length by omega, hs_ne (by decide), hs_same]
variable {g : Nat}
theorem sp7_lentMark {K : Int32 → Hp → Prop} (hA : RK h L) (hR : RW h 0 T) (hL : L.length + 1 ≤ 16) (kk : ∀ h', RK h' (L ++ [20]) → RW h' 0 T → FT h h' → K (nI g) h') : Call G (d + 1) mX7_lentMark [.ref 89, .int (nI g)] h (pI K) := by
  refine Call.of (M := mX7_lentMark) (n := 0) (by decide +kernel) rfl ?_
  show WP _ _ _ _ 0 [some (.ref 89), some (.int (nI g))] [] _
  refine wp_aload_n (pc := 0) (i := 0) dX7_lentMark_0 rfl rfl ?_
  refine wp_bipush (pc := 1) (v := nI 20) dX7_lentMark_1 rfl ?_
  refine wp_cV1v (pc := 3) lk_X7_258 dX7_lentMark_3 rfl rfl rfl (sp7_begin hA hR (by omega) (fun h1 hA1 hR1 hf1 => ?_))
  refine wp_iload_n (pc := 6) (i := 1) dX7_lentMark_6 rfl rfl ?_
  refine wp_iret (pc := 7) dX7_lentMark_7 rfl ?_
  rotate_left
  exact kk h1 hA1 hR1 hf1
theorem sp7_lentSize {K : Int32 → Hp → Prop} (hA : RK h L) (hR : RW h 0 T) (hg : g < 6) (hL : L.length + 1 ≤ 16) (kk : ∀ h', RK h' (L ++ [10]) → RW h' 0 T → FT h h' → K (nI (T (26 + g))) h') : Call G (d + 1) mX7_lentSize [.ref 89, .int (nI g)] h (pI K) := by
  refine Call.of (M := mX7_lentSize) (n := 0) (by decide +kernel) rfl ?_
  show WP _ _ _ _ 0 [some (.ref 89), some (.int (nI g))] [] _
  refine wp_aload_n (pc := 0) (i := 0) dX7_lentSize_0 rfl rfl ?_
  refine wp_bipush (pc := 1) (v := nI 10) dX7_lentSize_1 rfl ?_
  refine wp_cV1v (pc := 3) lk_X7_258 dX7_lentSize_3 rfl rfl rfl (sp7_begin hA hR (by omega) (fun h1 hA1 hR1 hf1 => ?_))
  rotate_left
  have e : h1 90 (26 + g) = nI (T (26 + g)) := by have := hR1 (26 + g) (by omega); rw [Nat.zero_add] at this; exact this
  refine wp_aload_n (pc := 6) (i := 0) dX7_lentSize_6 rfl rfl ?_
  refine wp_gfr (pc := 7) fk_X7_7 dX7_lentSize_7 rfl rfl (by decide) ?_
  refine wp_bipush (pc := 10) (v := nI 26) dX7_lentSize_10 rfl ?_
  refine wp_iload_n (pc := 12) (i := 1) dX7_lentSize_12 rfl rfl ?_
  first | (with_reducible show WP _ _ _ _ _ _ (Value.int (nI _) :: Value.int (nI _) :: _) _; refine wp_iaddN (pc := 13) dX7_lentSize_13 ?_) | refine wp_iadd (pc := 13) dX7_lentSize_13 ?_
  first | (with_reducible show WP _ _ _ _ _ _ (Value.int (nI _) :: _) _; refine wp_ialdN (pc := 14) dX7_lentSize_14 rfl (by omega) (by first | with_reducible assumption | with_reducible exact hs_same _ _ _ _ | rfl) ?_) | refine wp_iald (pc := 14) dX7_lentSize_14 rfl (by assumption) rfl ?_
  refine wp_iret (pc := 15) dX7_lentSize_15 rfl ?_
  rotate_left
  exact kk h1 hA1 hR1 hf1
theorem sp7_soupsMark {K : Int32 → Hp → Prop} (hA : RK h L) (hR : RW h 0 T) (hg : g < 6) (hL : L.length + 2 ≤ 16) (kk : ∀ h', RK h' (L ++ [21, 20]) → RW h' 0 T → FT h h' → K (nI (g + T (32 + g))) h') : Call G (d + 2) mX7_soupsMark [.ref 89, .int (nI g)] h (pI K) := by
  have l1 : (L ++ [21]).length = L.length + 1 := by simp
  refine Call.of (M := mX7_soupsMark) (n := 0) (by decide +kernel) rfl ?_
  show WP _ _ _ _ 0 [some (.ref 89), some (.int (nI g))] [] _
  refine wp_aload_n (pc := 0) (i := 0) dX7_soupsMark_0 rfl rfl ?_
  refine wp_bipush (pc := 1) (v := nI 21) dX7_soupsMark_1 rfl ?_
  refine wp_cV1v (pc := 3) lk_X7_258 dX7_soupsMark_3 rfl rfl rfl (sp7_begin hA hR (by omega) (fun h1 hA1 hR1 hf1 => ?_))
  refine wp_aload_n (pc := 6) (i := 0) dX7_soupsMark_6 rfl rfl ?_
  refine wp_iload_n (pc := 7) (i := 1) dX7_soupsMark_7 rfl rfl ?_
  refine wp_cV1i (pc := 8) lk_X7_273 dX7_soupsMark_8 rfl rfl rfl (sp7_lentMark hA1 hR1 (by omega) (fun h2 hA2 hR2 hf2 => ?_))
  rotate_left
  have e : h2 90 (32 + g) = nI (T (32 + g)) := by have := hR2 (32 + g) (by omega); rw [Nat.zero_add] at this; exact this
  refine wp_aload_n (pc := 11) (i := 0) dX7_soupsMark_11 rfl rfl ?_
  refine wp_gfr (pc := 12) fk_X7_7 dX7_soupsMark_12 rfl rfl (by decide) ?_
  refine wp_bipush (pc := 15) (v := nI 32) dX7_soupsMark_15 rfl ?_
  refine wp_iload_n (pc := 17) (i := 1) dX7_soupsMark_17 rfl rfl ?_
  first | (with_reducible show WP _ _ _ _ _ _ (Value.int (nI _) :: Value.int (nI _) :: _) _; refine wp_iaddN (pc := 18) dX7_soupsMark_18 ?_) | refine wp_iadd (pc := 18) dX7_soupsMark_18 ?_
  first | (with_reducible show WP _ _ _ _ _ _ (Value.int (nI _) :: _) _; refine wp_ialdN (pc := 19) dX7_soupsMark_19 rfl (by omega) (by first | with_reducible assumption | with_reducible exact hs_same _ _ _ _ | rfl) ?_) | refine wp_iald (pc := 19) dX7_soupsMark_19 rfl (by assumption) rfl ?_
  first | (with_reducible show WP _ _ _ _ _ _ (Value.int (nI _) :: Value.int (nI _) :: _) _; refine wp_iaddN (pc := 20) dX7_soupsMark_20 ?_) | refine wp_iadd (pc := 20) dX7_soupsMark_20 ?_
  refine wp_iret (pc := 21) dX7_soupsMark_21 rfl ?_
  rotate_left
  rw [List.append_assoc] at hA2
  exact kk h2 hA2 hR2 (hf1.tr hf2)
theorem sp7_mark {K : Int32 → Hp → Prop} (hA : RK h L) (hR : RW h 0 T) (hO : OKT T) (hg : g < T 1) (hL : L.length + 3 ≤ 16) (kk : ∀ h', RK h' (L ++ mL (T (20 + g))) → RW h' 0 T → FT h h' → K (mS g (T (20 + g)) (T (32 + g))) h') : Call G (d + 3) mX7_mark [.ref 89, .int (nI g)] h (pI K) := by
  obtain ⟨o0, o1, o2, o3, o4, o5, o6, o7, o8⟩ := id hO
  obtain ⟨⟨q1, q2⟩, q3, q4, -⟩ := o7 g hg
  have e : h 90 (20 + g) = nI (T (20 + g)) := by have := hR (20 + g) (by omega); rw [Nat.zero_add] at this; exact this
  refine Call.of (M := mX7_mark) (n := 0) (by decide +kernel) rfl ?_
  show WP _ _ _ _ 0 [some (.ref 89), some (.int (nI g))] [] _
  refine wp_aload_n (pc := 0) (i := 0) dX7_mark_0 rfl rfl ?_
  refine wp_gfr (pc := 1) fk_X7_7 dX7_mark_1 rfl rfl (by decide) ?_
  refine wp_bipush (pc := 4) (v := nI 20) dX7_mark_4 rfl ?_
  refine wp_iload_n (pc := 6) (i := 1) dX7_mark_6 rfl rfl ?_
  first | (with_reducible show WP _ _ _ _ _ _ (Value.int (nI _) :: Value.int (nI _) :: _) _; refine wp_iaddN (pc := 7) dX7_mark_7 ?_) | refine wp_iadd (pc := 7) dX7_mark_7 ?_
  first | (with_reducible show WP _ _ _ _ _ _ (Value.int (nI _) :: _) _; refine wp_ialdN (pc := 8) dX7_mark_8 rfl (by omega) (by first | with_reducible assumption | with_reducible exact hs_same _ _ _ _ | rfl) ?_) | refine wp_iald (pc := 8) dX7_mark_8 rfl (by assumption) rfl ?_
  rotate_left
  rcases (show T (20 + g) = 3 ∨ T (20 + g) = 2 ∨ (T (20 + g) = 1 ∨ T (20 + g) = 4 ∨ T (20 + g) = 5) by omega) with z | z | z
  · rw [mL, mS, if_pos z, if_pos z] at kk
    rw [z]
    have l1 : (L ++ [22]).length = L.length + 1 := by simp
    refine wp_lookup (tgt := 36) (off := 27) dX7_mark_9 (by decide) (by decide) (by decide) ?_
    refine wp_aload_n (pc := 36) (i := 0) dX7_mark_36 rfl rfl ?_
    refine wp_bipush (pc := 37) (v := nI 22) dX7_mark_37 rfl ?_
    refine wp_cV1v (pc := 39) lk_X7_258 dX7_mark_39 rfl rfl rfl (sp7_begin hA hR (by omega) (fun h1 hA1 hR1 hf1 => ?_))
    refine wp_aload_n (pc := 42) (i := 0) dX7_mark_42 rfl rfl ?_
    refine wp_iload_n (pc := 43) (i := 1) dX7_mark_43 rfl rfl ?_
    refine wp_cV1i (pc := 44) lk_X7_276 dX7_mark_44 rfl rfl rfl (sp7_soupsMark hA1 hR1 (by omega) (by omega) (fun h2 hA2 hR2 hf2 => ?_))
    refine wp_sipush (pc := 47) (v := nI 1000) dX7_mark_47 rfl ?_
    first | (with_reducible show WP _ _ _ _ _ _ (Value.int (nI _) :: Value.int (nI _) :: _) _; refine wp_isubN (pc := 50) dX7_mark_50 (by omega) ?_) | refine wp_isub (pc := 50) dX7_mark_50 ?_
    refine wp_iret (pc := 51) dX7_mark_51 rfl ?_
    rotate_left
    rw [List.append_assoc] at hA2
    exact kk h2 hA2 hR2 (hf1.tr hf2)
  · have z3 : ¬ T (20 + g) = 3 := by omega
    rw [mL, mS, if_neg z3, if_neg z3, if_pos z, if_pos z] at kk
    rw [z]
    have l1 : (L ++ [24]).length = L.length + 1 := by simp
    refine wp_lookup (tgt := 52) (off := 43) dX7_mark_9 (by decide) (by decide) (by decide) ?_
    refine wp_aload_n (pc := 52) (i := 0) dX7_mark_52 rfl rfl ?_
    refine wp_bipush (pc := 53) (v := nI 24) dX7_mark_53 rfl ?_
    refine wp_cV1v (pc := 55) lk_X7_258 dX7_mark_55 rfl rfl rfl (sp7_begin hA hR (by omega) (fun h1 hA1 hR1 hf1 => ?_))
    refine wp_iconst (pc := 58) (v := nI 2) dX7_mark_58 rfl ?_
    refine wp_aload_n (pc := 59) (i := 0) dX7_mark_59 rfl rfl ?_
    refine wp_iload_n (pc := 60) (i := 1) dX7_mark_60 rfl rfl ?_
    refine wp_cV1i (pc := 61) lk_X7_276 dX7_mark_61 rfl rfl rfl (sp7_soupsMark hA1 hR1 (by omega) (by omega) (fun h2 hA2 hR2 hf2 => ?_))
    first | (with_reducible show WP _ _ _ _ _ _ (Value.int (nI _) :: Value.int (nI _) :: _) _; refine wp_imulN (pc := 64) dX7_mark_64 ?_) | refine wp_imul (pc := 64) dX7_mark_64 ?_
    refine wp_iret (pc := 65) dX7_mark_65 rfl ?_
    rotate_left
    rw [List.append_assoc] at hA2
    exact kk h2 hA2 hR2 (hf1.tr hf2)
  · have z3 : ¬ T (20 + g) = 3 := by omega
    have z2 : ¬ T (20 + g) = 2 := by omega
    rw [mL, mS, if_neg z3, if_neg z3, if_neg z2, if_neg z2] at kk
    have main : WP G (d + 3) mX7_mark (pI K) 66 [some (.ref 89), some (.int (nI g))] [] h := by
      refine wp_aload_n (pc := 66) (i := 0) dX7_mark_66 rfl rfl ?_
      refine wp_iload_n (pc := 67) (i := 1) dX7_mark_67 rfl rfl ?_
      refine wp_cV1i (pc := 68) lk_X7_276 dX7_mark_68 rfl rfl rfl (sp7_soupsMark hA hR (by omega) (by omega) (fun h2 hA2 hR2 hf2 => ?_))
      refine wp_iret (pc := 71) dX7_mark_71 rfl ?_
      rotate_left
      exact kk h2 hA2 hR2 hf2
    rcases z with z | z | z
    all_goals rw [z]; exact wp_lookup (tgt := 66) (off := 57) dX7_mark_9 (by decide) (by decide) (by decide) main
theorem sp7_soupsSize {K : Int32 → Hp → Prop} (hA : RK h L) (hR : RW h 0 T) (hO : OKT T) (hg : g < T 1) (hL : L.length + 5 ≤ 16) (kk : ∀ h', RK h' (L ++ zL (T (20 + g))) → RW h' 0 T → FT h h' → K (zS g (T (20 + g)) (T (26 + g)) (T (32 + g))) h') : Call G (d + 4) mX7_soupsSize [.ref 89, .int (nI g)] h (pI K) := by
  have o1 := hO.2.1
  have l1 : (L ++ [11]).length = L.length + 1 := by simp
  have l2 : ((L ++ [11]) ++ [10]).length = L.length + 2 := by simp
  refine Call.of (M := mX7_soupsSize) (n := 1) (by decide +kernel) rfl ?_
  show WP _ _ _ _ 0 [some (.ref 89), some (.int (nI g)), none] [] _
  refine wp_aload_n (pc := 0) (i := 0) dX7_soupsSize_0 rfl rfl ?_
  refine wp_bipush (pc := 1) (v := nI 11) dX7_soupsSize_1 rfl ?_
  refine wp_cV1v (pc := 3) lk_X7_258 dX7_soupsSize_3 rfl rfl rfl (sp7_begin hA hR (by omega) (fun h1 hA1 hR1 hf1 => ?_))
  refine wp_aload_n (pc := 6) (i := 0) dX7_soupsSize_6 rfl rfl ?_
  refine wp_iload_n (pc := 7) (i := 1) dX7_soupsSize_7 rfl rfl ?_
  refine wp_cV1i (pc := 8) lk_X7_261 dX7_soupsSize_8 rfl rfl rfl (sp7_lentSize hA1 hR1 (by omega) (by omega) (fun h2 hA2 hR2 hf2 => ?_))
  refine wp_istore_n (pc := 11) (i := 2) dX7_soupsSize_11 rfl rfl (by decide) rfl ?_
  dsimp only [List.set_cons_zero, List.set_cons_succ]
  refine wp_iload_n (pc := 12) (i := 2) dX7_soupsSize_12 rfl rfl ?_
  refine wp_aload_n (pc := 13) (i := 0) dX7_soupsSize_13 rfl rfl ?_
  refine wp_iload_n (pc := 14) (i := 1) dX7_soupsSize_14 rfl rfl ?_
  refine wp_cV1i (pc := 15) lk_X7_264 dX7_soupsSize_15 rfl rfl rfl (sp7_mark hA2 hR2 hO hg (by omega) (fun h3 hA3 hR3 hf3 => ?_))
  rotate_left
  refine wp_iadd (pc := 18) dX7_soupsSize_18 ?_
  refine wp_iret (pc := 19) dX7_soupsSize_19 rfl ?_
  rotate_left
  rw [List.append_assoc, List.append_assoc] at hA3
  exact kk h3 hA3 hR3 ((hf1.tr hf2).tr hf3)
theorem sp7_sternSize {K : Int32 → Hp → Prop} (hA : RK h L) (hR : RW h 0 T) (hO : OKT T) (hg : g < T 1) (hL : L.length + 2 ≤ 16) (kk : ∀ h', RK h' (L ++ [13, 10]) → RW h' 0 T → FT h h' → K (nI (T (26 + g)) - nI 100) h') : Call G (d + 2) mX7_sternSize [.ref 89, .int (nI g)] h (pI K) := by
  have o1 := hO.2.1
  have q3 := (hO.2.2.2.2.2.2.2.1 g hg).2.1
  have l1 : (L ++ [13]).length = L.length + 1 := by simp
  refine Call.of (M := mX7_sternSize) (n := 0) (by decide +kernel) rfl ?_
  show WP _ _ _ _ 0 [some (.ref 89), some (.int (nI g))] [] _
  refine wp_aload_n (pc := 0) (i := 0) dX7_sternSize_0 rfl rfl ?_
  refine wp_bipush (pc := 1) (v := nI 13) dX7_sternSize_1 rfl ?_
  refine wp_cV1v (pc := 3) lk_X7_258 dX7_sternSize_3 rfl rfl rfl (sp7_begin hA hR (by omega) (fun h1 hA1 hR1 hf1 => ?_))
  refine wp_aload_n (pc := 6) (i := 0) dX7_sternSize_6 rfl rfl ?_
  refine wp_iload_n (pc := 7) (i := 1) dX7_sternSize_7 rfl rfl ?_
  refine wp_cV1i (pc := 8) lk_X7_261 dX7_sternSize_8 rfl rfl rfl (sp7_lentSize hA1 hR1 (by omega) (by omega) (fun h2 hA2 hR2 hf2 => ?_))
  refine wp_bipush (pc := 11) (v := nI 100) dX7_sternSize_11 rfl ?_
  first | (with_reducible show WP _ _ _ _ _ _ (Value.int (nI _) :: Value.int (nI _) :: _) _; refine wp_isubN (pc := 13) dX7_sternSize_13 (by omega) ?_) | refine wp_isub (pc := 13) dX7_sternSize_13 ?_
  refine wp_iret (pc := 14) dX7_sternSize_14 rfl ?_
  rotate_left
  rw [List.append_assoc] at hA2
  exact kk h2 hA2 hR2 (hf1.tr hf2)
theorem ofK1 {k : Nat} (h1 : 1 ≤ k) (h5 : k ≤ 5) : ofK k 1 = decide (k = 1 ∨ k = 2 ∨ k = 3) := decide_eq_decide.mpr (by omega)
theorem sp7_sizeOf {K : Int32 → Hp → Prop} (hA : RK h L) (hR : RW h 0 T) (hO : OKT T) (hg : g < T 1) (hL : L.length + 6 ≤ 16) (kk : ∀ h', RK h' (L ++ aZL (T (20 + g))) → RW h' 0 T → FT h h' → K (aZ g (T (20 + g)) (T (26 + g)) (T (32 + g))) h') : Call G (d + 5) mX7_sizeOf [.ref 89, .int (nI g)] h (pI K) := by
  obtain ⟨o0, o1, o2, o3, o4, o5, o6, o7, o8⟩ := id hO
  obtain ⟨⟨q1, q2⟩, q3, q4, -⟩ := o7 g hg
  have e : h 90 (20 + g) = nI (T (20 + g)) := by have := hR (20 + g) (by omega); rw [Nat.zero_add] at this; exact this
  have l1 : (L ++ [12]).length = L.length + 1 := by simp
  have l2 : (L ++ [14]).length = L.length + 1 := by simp
  refine Call.of (M := mX7_sizeOf) (n := 0) (by decide +kernel) rfl ?_
  show WP _ _ _ _ 0 [some (.ref 89), some (.int (nI g))] [] _
  refine wp_aload_n (pc := 0) (i := 0) dX7_sizeOf_0 rfl rfl ?_
  refine wp_gfr (pc := 1) fk_X7_7 dX7_sizeOf_1 rfl rfl (by decide) ?_
  refine wp_bipush (pc := 4) (v := nI 20) dX7_sizeOf_4 rfl ?_
  refine wp_iload_n (pc := 6) (i := 1) dX7_sizeOf_6 rfl rfl ?_
  first | (with_reducible show WP _ _ _ _ _ _ (Value.int (nI _) :: Value.int (nI _) :: _) _; refine wp_iaddN (pc := 7) dX7_sizeOf_7 ?_) | refine wp_iadd (pc := 7) dX7_sizeOf_7 ?_
  first | (with_reducible show WP _ _ _ _ _ _ (Value.int (nI _) :: _) _; refine wp_ialdN (pc := 8) dX7_sizeOf_8 rfl (by omega) (by first | with_reducible assumption | with_reducible exact hs_same _ _ _ _ | rfl) ?_) | refine wp_iald (pc := 8) dX7_sizeOf_8 rfl (by assumption) rfl ?_
  rotate_left
  rw [aZL, aZ, ofK1 q1 q2] at kk
  rcases (show T (20 + g) = 2 ∨ T (20 + g) = 4 ∨ T (20 + g) = 5 ∨ (T (20 + g) = 1 ∨ T (20 + g) = 3) by omega) with z | z | z | z
  · rw [if_pos z, if_pos z] at kk
    rw [z]
    refine wp_tableIn (tgt := 40) dX7_sizeOf_9 (by decide) (by decide) rfl (by decide) ?_
    refine wp_aload_n (pc := 40) (i := 0) dX7_sizeOf_40 rfl rfl ?_
    refine wp_bipush (pc := 41) (v := nI 12) dX7_sizeOf_41 rfl ?_
    refine wp_cV1v (pc := 43) lk_X7_258 dX7_sizeOf_43 rfl rfl rfl (sp7_begin hA hR (by omega) (fun h1 hA1 hR1 hf1 => ?_))
    refine wp_aload_n (pc := 46) (i := 0) dX7_sizeOf_46 rfl rfl ?_
    refine wp_iload_n (pc := 47) (i := 1) dX7_sizeOf_47 rfl rfl ?_
    refine wp_cV1i (pc := 48) lk_X7_267 dX7_sizeOf_48 rfl rfl rfl (sp7_soupsSize hA1 hR1 hO hg (by omega) (fun h2 hA2 hR2 hf2 => ?_))
    refine wp_ineg (pc := 51) dX7_sizeOf_51 ?_
    refine wp_iret (pc := 52) dX7_sizeOf_52 rfl ?_
    rotate_left
    rw [List.append_assoc] at hA2
    exact kk h2 hA2 hR2 (hf1.tr hf2)
  · have z2 : ¬ T (20 + g) = 2 := by omega
    have z9 : ¬ (T (20 + g) = 1 ∨ T (20 + g) = 2 ∨ T (20 + g) = 3) := by omega
    rw [if_neg z2, if_neg z2, decide_eq_false z9, tL, tS, if_neg (by omega : ¬ T (20 + g) = 5), if_neg (by omega : ¬ T (20 + g) = 5)] at kk
    rw [z]
    refine wp_tableIn (tgt := 53) dX7_sizeOf_9 (by decide) (by decide) rfl (by decide) ?_
    refine wp_aload_n (pc := 53) (i := 0) dX7_sizeOf_53 rfl rfl ?_
    refine wp_iload_n (pc := 54) (i := 1) dX7_sizeOf_54 rfl rfl ?_
    refine wp_cV1i (pc := 55) lk_X7_270 dX7_sizeOf_55 rfl rfl rfl (sp7_sternSize hA hR hO hg (by omega) (fun h2 hA2 hR2 hf2 => ?_))
    refine wp_iret (pc := 58) dX7_sizeOf_58 rfl ?_
    rotate_left
    exact kk h2 hA2 hR2 hf2
  · have z2 : ¬ T (20 + g) = 2 := by omega
    have z9 : ¬ (T (20 + g) = 1 ∨ T (20 + g) = 2 ∨ T (20 + g) = 3) := by omega
    rw [if_neg z2, if_neg z2, decide_eq_false z9, tL, tS, if_pos z, if_pos z] at kk
    rw [z]
    refine wp_tableIn (tgt := 59) dX7_sizeOf_9 (by decide) (by decide) rfl (by decide) ?_
    refine wp_aload_n (pc := 59) (i := 0) dX7_sizeOf_59 rfl rfl ?_
    refine wp_bipush (pc := 60) (v := nI 14) dX7_sizeOf_60 rfl ?_
    refine wp_cV1v (pc := 62) lk_X7_258 dX7_sizeOf_62 rfl rfl rfl (sp7_begin hA hR (by omega) (fun h1 hA1 hR1 hf1 => ?_))
    refine wp_iconst (pc := 65) (v := nI 2) dX7_sizeOf_65 rfl ?_
    refine wp_aload_n (pc := 66) (i := 0) dX7_sizeOf_66 rfl rfl ?_
    refine wp_iload_n (pc := 67) (i := 1) dX7_sizeOf_67 rfl rfl ?_
    refine wp_cV1i (pc := 68) lk_X7_270 dX7_sizeOf_68 rfl rfl rfl (sp7_sternSize hA1 hR1 hO hg (by omega) (fun h2 hA2 hR2 hf2 => ?_))
    first | (with_reducible show WP _ _ _ _ _ _ (Value.int (nI _) :: Value.int (nI _) :: _) _; refine wp_imulN (pc := 71) dX7_sizeOf_71 ?_) | refine wp_imul (pc := 71) dX7_sizeOf_71 ?_
    refine wp_iret (pc := 72) dX7_sizeOf_72 rfl ?_
    rotate_left
    rw [List.append_assoc] at hA2
    exact kk h2 hA2 hR2 (hf1.tr hf2)
  · have z2 : ¬ T (20 + g) = 2 := by omega
    have z9 : (T (20 + g) = 1 ∨ T (20 + g) = 2 ∨ T (20 + g) = 3) := by omega
    rw [if_neg z2, if_neg z2, decide_eq_true z9] at kk
    have main : WP G (d + 5) mX7_sizeOf (pI K) 73 [some (.ref 89), some (.int (nI g))] [] h := by
      refine wp_aload_n (pc := 73) (i := 0) dX7_sizeOf_73 rfl rfl ?_
      refine wp_iload_n (pc := 74) (i := 1) dX7_sizeOf_74 rfl rfl ?_
      refine wp_cV1i (pc := 75) lk_X7_267 dX7_sizeOf_75 rfl rfl rfl (sp7_soupsSize hA hR hO hg (by omega) (fun h2 hA2 hR2 hf2 => ?_))
      refine wp_iret (pc := 78) dX7_sizeOf_78 rfl ?_
      rotate_left
      exact kk h2 hA2 hR2 hf2
    rcases z with z | z
    · rw [z]; exact wp_tableOut (tgt := 73) dX7_sizeOf_9 (by decide) (by decide) main
    · rw [z]; exact wp_tableIn (tgt := 73) dX7_sizeOf_9 (by decide) (by decide) rfl (by decide) main
theorem sp7_sternMark {K : Int32 → Hp → Prop} (hA : RK h []) (hR : RW h 0 T) (hO : OKT T) (hg : g < T 1) (h4 : T (20 + g) = 4 ∨ T (20 + g) = 5) (kk : ∀ h', RK h' ([23, 20] ++ tL (T (20 + g))) → FT h h' → K (nI g - tS (T (20 + g)) (T (26 + g))) h') : Call G (d + 6) mX7_sternMark [.ref 89, .int (nI g)] h (pI K) := by
  have e1 : aZL (T (20 + g)) = tL (T (20 + g)) := by rw [aZL, ofK1 (by omega) (by omega), if_neg (by omega), decide_eq_false (by omega)]; rfl
  have e2 : aZ g (T (20 + g)) (T (26 + g)) (T (32 + g)) = tS (T (20 + g)) (T (26 + g)) := by rw [aZ, ofK1 (by omega) (by omega), if_neg (by omega), decide_eq_false (by omega)]; rfl
  refine Call.of (M := mX7_sternMark) (n := 1) (by decide +kernel) rfl ?_
  show WP _ _ _ _ 0 [some (.ref 89), some (.int (nI g)), none] [] _
  refine wp_aload_n (pc := 0) (i := 0) dX7_sternMark_0 rfl rfl ?_
  refine wp_bipush (pc := 1) (v := nI 23) dX7_sternMark_1 rfl ?_
  refine wp_cV1v (pc := 3) lk_X7_258 dX7_sternMark_3 rfl rfl rfl (sp7_begin hA hR (by decide) (fun h1 hA1 hR1 hf1 => ?_))
  refine wp_aload_n (pc := 6) (i := 0) dX7_sternMark_6 rfl rfl ?_
  refine wp_iload_n (pc := 7) (i := 1) dX7_sternMark_7 rfl rfl ?_
  refine wp_cV1i (pc := 8) lk_X7_273 dX7_sternMark_8 rfl rfl rfl (sp7_lentMark hA1 hR1 (by decide) (fun h2 hA2 hR2 hf2 => ?_))
  refine wp_istore_n (pc := 11) (i := 2) dX7_sternMark_11 rfl rfl (by decide) rfl ?_
  dsimp only [List.set_cons_zero, List.set_cons_succ]
  refine wp_iload_n (pc := 12) (i := 2) dX7_sternMark_12 rfl rfl ?_
  refine wp_aload_n (pc := 13) (i := 0) dX7_sternMark_13 rfl rfl ?_
  refine wp_iload_n (pc := 14) (i := 1) dX7_sternMark_14 rfl rfl ?_
  refine wp_cV1i (pc := 15) lk_X7_279 dX7_sternMark_15 rfl rfl rfl (sp7_sizeOf hA2 hR2 hO hg (by decide) (fun h3 hA3 hR3 hf3 => ?_))
  rotate_left
  refine wp_isub (pc := 18) dX7_sternMark_18 ?_
  refine wp_iret (pc := 19) dX7_sternMark_19 rfl ?_
  rotate_left
  rw [e1] at hA3
  rw [e2]
  exact kk h3 hA3 ((hf1.tr hf2).tr hf3)
theorem RI.kk {h' : Hp} (H : RI h σ) (hA : RK h' L) (e : FT h h') : RI h' (upK σ L) := by
  obtain ⟨a, a2, b, c, f, g, g1, g2, k⟩ := H
  have n : ∀ q, q ≠ 89 → q ≠ 96 → h' q = h q := e.1
  exact ⟨a.ft e, by rw [e.2 1 (by decide)]; exact a2, b.cg (e.2 2 (by decide)) (fun q _ _ => by rw [n 90 (by decide) (by decide)]), c.cg (n 91 (by decide) (by decide)) (fun q _ _ => by rw [n 90 (by decide) (by decide)]), f.cg (n 92 (by decide) (by decide)) (n 93 (by decide) (by decide)) (n 94 (by decide) (by decide)), g.cg (e.2 8 (by decide)) (n 95 (by decide) (by decide)), by rw [e.2 9 (by decide)]; exact g1, by rw [e.2 10 (by decide)]; exact g2, hA⟩
theorem of4 {k : Nat} (h : ofK k 4 = true) : k = 4 ∨ k = 5 := by have := of_decide_eq_true h; omega
theorem sr_ask {x w : Int32} {K : Int32 → Hp → Prop} (H : RI h σ) (hO : OKT (gT σ)) (k : ∀ h', RI h' (fAsk σ x w).2 → DS h h' → K (fAsk σ x w).1 h') : Call G (d + 7) mX7_ask [.ref 89, .int x, .int w] h (pI K) := by
  have o1 := hO.2.1
  refine Call.of (M := mX7_ask) (n := 0) (by decide +kernel) rfl ?_
  show WP _ _ _ _ 0 [some (.ref 89), some (.int x), some (.int w)] [] _
  refine wp_aload_n (pc := 0) (i := 0) dX7_ask_0 rfl rfl ?_
  refine wp_iload_n (pc := 1) (i := 1) dX7_ask_1 rfl rfl ?_
  refine wp_cV1i (pc := 2) lk_X7_176 dX7_ask_2 rfl rfl rfl (sp7_isGran H.1 hO ?_)
  first | (with_reducible show WP _ _ _ _ _ _ (Value.int (bI _) :: _) _; refine wp_if_eqB (pc := 5) (tgt := 18) dX7_ask_5 (by decide) (fun c5 => ?_) (fun c5 => ?_)) | (with_reducible show WP _ _ _ _ _ _ (Value.int (nI _) :: _) _; refine wp_if_eqN (pc := 5) (tgt := 18) dX7_ask_5 (by decide) (by omega) (fun c5 => ?_) (fun c5 => ?_)) | refine wp_if_eq (pc := 5) (tgt := 18) dX7_ask_5 (by decide) (fun c5 => ?_) (fun c5 => ?_)
  refine wp_ldc (pc := 18) kn_X7_58 dX7_ask_18 ?_
  refine wp_iret (pc := 20) dX7_ask_20 rfl ?_
  rotate_left
  refine wp_iload_n (pc := 8) (i := 2) dX7_ask_8 rfl rfl ?_
  first | (with_reducible show WP _ _ _ _ _ _ (Value.int (nI _) :: _) _; refine wp_i2lN (pc := 9) dX7_ask_9 (by omega) ?_) | refine wp_i2l (pc := 9) dX7_ask_9 rfl ?_
  refine wp_lconst (pc := 10) (v := lN 0) dX7_ask_10 rfl ?_
  refine wp_lconst (pc := 11) (v := lN 1) dX7_ask_11 rfl ?_
  refine wp_cS3i (pc := 12) lk_X7_48 dX7_ask_12 rfl (sp7_btw (by decide) (by decide) ?_)
  first | (with_reducible show WP _ _ _ _ _ _ (Value.int (bI _) :: _) _; refine wp_if_neB (pc := 15) (tgt := 21) dX7_ask_15 (by decide) (fun c15 => ?_) (fun c15 => ?_)) | (with_reducible show WP _ _ _ _ _ _ (Value.int (nI _) :: _) _; refine wp_if_neN (pc := 15) (tgt := 21) dX7_ask_15 (by decide) (by omega) (fun c15 => ?_) (fun c15 => ?_)) | refine wp_if_ne (pc := 15) (tgt := 21) dX7_ask_15 (by decide) (fun c15 => ?_) (fun c15 => ?_)
  rotate_left
  refine wp_ldc (pc := 18) kn_X7_58 dX7_ask_18 ?_
  refine wp_iret (pc := 20) dX7_ask_20 rfl ?_
  rotate_left
  · rw [fAsk, c5] at k; exact k h H DS.rf
  rotate_left
  · rw [fAsk, c5, c15] at k; exact k h H DS.rf
  rw [fAsk, c5, c15] at k
  obtain ⟨g, hg, rfl⟩ := inN_t (by omega) c5
  obtain ⟨m, -, hm, rfl⟩ := btw_t (by decide) c15
  rw [nI_clamp (show g < 2 ^ 31 by omega)] at k
  obtain ⟨⟨q1, q2⟩, q3, q4, -⟩ := hO.2.2.2.2.2.2.2.1 g hg
  have em : nI m = nI 0 ↔ m = 0 := nI_eq (by omega) (by decide)
  have hf0 : FT h (hs h 89 12 (nI 0)) := ⟨fun q a _ => hs_ne a, fun q a => hs_ix a⟩
  have hA0 : RK (hs h 89 12 (nI 0)) [] := ⟨hs_same _ _ _ _, fun i b hb => by simp at hb⟩
  have hR0 := H.1.ft hf0
  refine wp_aload_n (pc := 21) (i := 0) dX7_ask_21 rfl rfl ?_
  refine wp_iconst (pc := 22) (v := nI 0) dX7_ask_22 rfl ?_
  refine wp_pf (pc := 23) fp_X7_255 dX7_ask_23 rfl rfl rfl rfl ?_
  refine wp_iload_n (pc := 26) (i := 2) dX7_ask_26 rfl rfl ?_
  first | (with_reducible show WP _ _ _ _ _ _ (Value.int (bI _) :: _) _; refine wp_if_neB (pc := 27) (tgt := 38) dX7_ask_27 (by decide) (fun c27 => ?_) (fun c27 => ?_)) | (with_reducible show WP _ _ _ _ _ _ (Value.int (nI _) :: _) _; refine wp_if_neN (pc := 27) (tgt := 38) dX7_ask_27 (by decide) (by omega) (fun c27 => ?_) (fun c27 => ?_)) | refine wp_if_ne (pc := 27) (tgt := 38) dX7_ask_27 (by decide) (fun c27 => ?_) (fun c27 => ?_)
  refine wp_aload_n (pc := 38) (i := 0) dX7_ask_38 rfl rfl ?_
  refine wp_iload_n (pc := 39) (i := 1) dX7_ask_39 rfl rfl ?_
  refine wp_iconst (pc := 40) (v := nI 4) dX7_ask_40 rfl ?_
  refine wp_cV2i (pc := 41) lk_X7_252 dX7_ask_41 rfl rfl rfl (sp7_isOf hR0 hO hg (by decide) ?_)
  first | (with_reducible show WP _ _ _ _ _ _ (Value.int (bI _) :: _) _; refine wp_if_eqB (pc := 44) (tgt := 55) dX7_ask_44 (by decide) (fun c44 => ?_) (fun c44 => ?_)) | (with_reducible show WP _ _ _ _ _ _ (Value.int (nI _) :: _) _; refine wp_if_eqN (pc := 44) (tgt := 55) dX7_ask_44 (by decide) (by omega) (fun c44 => ?_) (fun c44 => ?_)) | refine wp_if_eq (pc := 44) (tgt := 55) dX7_ask_44 (by decide) (fun c44 => ?_) (fun c44 => ?_)
  refine wp_aload_n (pc := 55) (i := 0) dX7_ask_55 rfl rfl ?_
  refine wp_iload_n (pc := 56) (i := 1) dX7_ask_56 rfl rfl ?_
  refine wp_cV1i (pc := 57) lk_X7_264 dX7_ask_57 rfl rfl rfl (sp7_mark hA0 hR0 hO hg (by decide) (fun h2 hA2 hR2 hf2 => ?_))
  refine wp_iret (pc := 60) dX7_ask_60 rfl ?_
  rotate_left
  refine wp_aload_n (pc := 47) (i := 0) dX7_ask_47 rfl rfl ?_
  refine wp_iload_n (pc := 48) (i := 1) dX7_ask_48 rfl rfl ?_
  refine wp_cV1i (pc := 49) lk_X7_282 dX7_ask_49 rfl rfl rfl (sp7_sternMark hA0 hR0 hO hg (of4 c44) (fun h2 hA2 hf2 => ?_))
  refine wp_goto (pc := 52) (tgt := 60) dX7_ask_52 (by decide) ?_
  refine wp_iret (pc := 60) dX7_ask_60 rfl ?_
  rotate_left
  refine wp_aload_n (pc := 30) (i := 0) dX7_ask_30 rfl rfl ?_
  refine wp_iload_n (pc := 31) (i := 1) dX7_ask_31 rfl rfl ?_
  refine wp_cV1i (pc := 32) lk_X7_279 dX7_ask_32 rfl rfl rfl (sp7_sizeOf hA0 hR0 hO hg (by decide) (fun h2 hA2 hR2 hf2 => ?_))
  refine wp_goto (pc := 35) (tgt := 60) dX7_ask_35 (by decide) ?_
  refine wp_iret (pc := 60) dX7_ask_60 rfl ?_
  rotate_left
  · have z : ofK (gT σ (20 + g)) 1 = true := decide_eq_true (by have := of_decide_eq_false c44; omega)
    rw [if_neg (fun q => c27 (em.mp q)), aM, aML, z] at k
    exact k h2 (H.kk hA2 (hf0.tr hf2)) (fun a ha => (hf0.tr hf2).1 a (by omega) (by omega))
  · have z : ofK (gT σ (20 + g)) 1 = false := decide_eq_false (by have := of4 c44; omega)
    rw [if_neg (fun q => c27 (em.mp q)), aM, aML, z] at k
    exact k h2 (H.kk hA2 (hf0.tr hf2)) (fun a ha => (hf0.tr hf2).1 a (by omega) (by omega))
  · rw [if_pos (em.mpr c27)] at k
    exact k h2 (H.kk hA2 (hf0.tr hf2)) (fun a ha => (hf0.tr hf2).1 a (by omega) (by omega))
end RASK2
