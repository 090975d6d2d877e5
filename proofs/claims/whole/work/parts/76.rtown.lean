/-- the reference's reading changes only its tried town, where it stands, why it refuses, and the number -/
def FM (h h' : Hp) : Prop := (∀ q, q ≠ 89 → q ≠ 90 → h' q = h q) ∧ (∀ i, i < 13 ∨ 15 < i → h' 89 i = h 89 i) ∧ ∀ k, k < 1512 → h' 90 k = h 90 k
theorem FM.rf (h : Hp) : FM h h := ⟨fun _ _ _ => rfl, fun _ _ => rfl, fun _ _ => rfl⟩
theorem FM.tr {h h1 h2 : Hp} (a : FM h h1) (b : FM h1 h2) : FM h h2 := ⟨fun q e f => (b.1 q e f).trans (a.1 q e f), fun q e => (b.2.1 q e).trans (a.2.1 q e), fun q e => (b.2.2 q e).trans (a.2.2 q e)⟩
theorem FM.f9 {h h1 h2 : Hp} (a : FM h h1) (b : F9 h1 h2) : FM h h2 := a.tr ⟨fun q e _ => b.1 q e, b.2, fun k _ => by rw [b.1 90 (by decide)]⟩
theorem FM.hs {h h1 : Hp} {i : Nat} {v : Int32} (a : FM h h1) (hi : 1512 ≤ i) : FM h (hs h1 90 i v) := a.tr ⟨fun q _ e => hs_ne e, fun i _ => by rw [hs_ne (by decide)], fun k hk => hs_ix (by omega)⟩
theorem RW.f9 {h h1 : Hp} {b : Nat} {T : Tn} (H : RW h b T) (e : F9 h h1) : RW h1 b T := H.cg (fun k _ _ => by rw [e.1 90 (by decide)])
theorem RY.row {h : Hp} {B : List Nat} {a i : Nat} {v : Int32} (H : RY h B a) : RY (hs h 90 i v) B a := ⟨H.1.cg (by rw [hs_ne (by decide)]) (hs_ne (by decide)), by rw [hs_ne (by decide)]; exact H.2⟩
section RTOWN
variable {G : Gt} {d : Nat} {h : Hp} {B : List Nat} {a : Nat} {V : Tn} {σ : Sg}
theorem sp7_readsLaw {K : Int32 → Hp → Prop} (hY : RY h B 0) (hB : OB B) (hR : RW h 1512 zT)
    (kO : ∀ h' e p a', (∀ k, rLaw B k = k (up (up zT 2 e) 3 p) a') → e ≤ 9 → (1 ≤ p ∧ p ≤ 6) → a' ≤ B.length → RY h' B a' → RW h' 1512 (up (up zT 2 e) 3 p) → FM h h' → K (nI 1) h')
    (kF : ∀ h' w a', (∀ k, rLaw B k = rno w a') → w ≤ 3 → a' ≤ B.length → RFl h' B w a' → FM h h' → K (nI 0) h') : Call G (d + 3) mX7_readsLaw [.ref 89] h (pI K) := by
  have l := hB.1
  refine Call.of (M := mX7_readsLaw) (n := 0) (by decide +kernel) rfl ?_
  show WP _ _ _ _ 0 [some (.ref 89)] [] _
  refine wp_aload_n (pc := 0) (i := 0) dX7_readsLaw_0 rfl rfl ?_
  refine wp_bipush (pc := 1) (v := nI 108) dX7_readsLaw_1 rfl ?_
  refine wp_cV1i (pc := 3) lk_X7_102 dX7_readsLaw_3 rfl rfl rfl (sp7_sign hY hB (by omega) (by omega) (fun p1 l1 h1 hY1 f1 => ?_) (fun p1 h1 r f1 => ?_))
  rotate_left
  · first | (with_reducible show WP _ _ _ _ _ _ (Value.int (bI _) :: _) _; refine wp_if_eqB (pc := 6) (tgt := 19) dX7_readsLaw_6 (by decide) (fun c6 => ?_) (fun c6 => ?_)) | (with_reducible show WP _ _ _ _ _ _ (Value.int (nI _) :: _) _; refine wp_if_eqN (pc := 6) (tgt := 19) dX7_readsLaw_6 (by decide) (by omega) (fun c6 => ?_) (fun c6 => ?_)) | refine wp_if_eq (pc := 6) (tgt := 19) dX7_readsLaw_6 (by decide) (fun c6 => ?_) (fun c6 => ?_)
    refine wp_iconst (pc := 19) (v := nI 0) dX7_readsLaw_19 rfl ?_
    refine wp_zret (pc := 20) dX7_readsLaw_20 rfl (by first | exact Or.inl rfl | exact Or.inr rfl | assumption | exact bI_01 _) ?_
    rotate_left
    rotate_left
    · exact kF h1 1 0 (fun k => by rw [rLaw, p1]) (by omega) (by omega) r ((FM.rf h).f9 f1)
    · exact absurd rfl c6
  first | (with_reducible show WP _ _ _ _ _ _ (Value.int (bI _) :: _) _; refine wp_if_eqB (pc := 6) (tgt := 19) dX7_readsLaw_6 (by decide) (fun c6 => ?_) (fun c6 => ?_)) | (with_reducible show WP _ _ _ _ _ _ (Value.int (nI _) :: _) _; refine wp_if_eqN (pc := 6) (tgt := 19) dX7_readsLaw_6 (by decide) (by omega) (fun c6 => ?_) (fun c6 => ?_)) | refine wp_if_eq (pc := 6) (tgt := 19) dX7_readsLaw_6 (by decide) (fun c6 => ?_) (fun c6 => ?_)
  rotate_left
  refine wp_aload_n (pc := 9) (i := 0) dX7_readsLaw_9 rfl rfl ?_
  refine wp_iconst (pc := 10) (v := nI 0) dX7_readsLaw_10 rfl ?_
  refine wp_bipush (pc := 11) (v := nI 9) dX7_readsLaw_11 rfl ?_
  refine wp_cV2i (pc := 13) lk_X7_105 dX7_readsLaw_13 rfl rfl rfl (sp7_readsNumber hY1 hB l1 (by omega) (by omega) (fun n1 n2 p2 l2 h2 hY2 y2 f2 => ?_) (fun w w0 w3 p2 h2 r f2 => ?_))
  rotate_left
  · first | (with_reducible show WP _ _ _ _ _ _ (Value.int (bI _) :: _) _; refine wp_if_neB (pc := 16) (tgt := 21) dX7_readsLaw_16 (by decide) (fun c16 => ?_) (fun c16 => ?_)) | (with_reducible show WP _ _ _ _ _ _ (Value.int (nI _) :: _) _; refine wp_if_neN (pc := 16) (tgt := 21) dX7_readsLaw_16 (by decide) (by omega) (fun c16 => ?_) (fun c16 => ?_)) | refine wp_if_ne (pc := 16) (tgt := 21) dX7_readsLaw_16 (by decide) (fun c16 => ?_) (fun c16 => ?_)
    rotate_left
    refine wp_iconst (pc := 19) (v := nI 0) dX7_readsLaw_19 rfl ?_
    refine wp_zret (pc := 20) dX7_readsLaw_20 rfl (by first | exact Or.inl rfl | exact Or.inr rfl | assumption | exact bI_01 _) ?_
    rotate_left
    · exact absurd rfl c16
    · exact kF h2 w _ (fun k => by rw [rLaw, p1, p2]) w3 l1 r (((FM.rf h).f9 f1).f9 f2)
  · exact absurd c6 (by decide)
  have R2 : RW (hs h2 90 1514 (nI (nv B (0 + 1)))) 1512 (up zT 2 (nv B (0 + 1))) := RWup (b := 1512) (j := 2) ((hR.f9 f1).f9 f2) (by omega)
  have M2 : FM h (hs h2 90 1514 (nI (nv B (0 + 1)))) := (((FM.rf h).f9 f1).f9 f2).hs (by omega)
  have Y2 : RY (hs h2 90 1514 (nI (nv B (0 + 1)))) B (0 + 1 + nz B (0 + 1)) := hY2.row
  first | (with_reducible show WP _ _ _ _ _ _ (Value.int (bI _) :: _) _; refine wp_if_neB (pc := 16) (tgt := 21) dX7_readsLaw_16 (by decide) (fun c16 => ?_) (fun c16 => ?_)) | (with_reducible show WP _ _ _ _ _ _ (Value.int (nI _) :: _) _; refine wp_if_neN (pc := 16) (tgt := 21) dX7_readsLaw_16 (by decide) (by omega) (fun c16 => ?_) (fun c16 => ?_)) | refine wp_if_ne (pc := 16) (tgt := 21) dX7_readsLaw_16 (by decide) (fun c16 => ?_) (fun c16 => ?_)
  refine wp_aload_n (pc := 21) (i := 0) dX7_readsLaw_21 rfl rfl ?_
  refine wp_gfr (pc := 22) fk_X7_7 dX7_readsLaw_22 rfl rfl (by decide) ?_
  refine wp_sipush (pc := 25) (v := nI 1514) dX7_readsLaw_25 rfl ?_
  refine wp_aload_n (pc := 28) (i := 0) dX7_readsLaw_28 rfl rfl ?_
  refine wp_gfv (pc := 29) fk_X7_99 dX7_readsLaw_29 rfl rfl (by first | with_reducible assumption | with_reducible exact hs_same _ _ _ _ | rfl) ?_
  first | (with_reducible show WP _ _ _ _ _ _ (_ :: Value.int (nI _) :: _) _; refine wp_iastN (pc := 32) dX7_readsLaw_32 rfl (by omega) ?_) | refine wp_iast (pc := 32) dX7_readsLaw_32 rfl (by assumption) rfl ?_
  rotate_left
  rotate_left
  · generalize hs h2 90 1514 (nI (nv B (0 + 1))) = h2' at *
    refine wp_aload_n (pc := 33) (i := 0) dX7_readsLaw_33 rfl rfl ?_
    refine wp_bipush (pc := 34) (v := nI 44) dX7_readsLaw_34 rfl ?_
    refine wp_cV1i (pc := 36) lk_X7_102 dX7_readsLaw_36 rfl rfl rfl (sp7_sign Y2 hB l2 (by omega) (fun p3 l3 h3 hY3 f3 => ?_) (fun p3 h3 r f3 => ?_))
    rotate_left
    · first | (with_reducible show WP _ _ _ _ _ _ (Value.int (bI _) :: _) _; refine wp_if_eqB (pc := 39) (tgt := 52) dX7_readsLaw_39 (by decide) (fun c39 => ?_) (fun c39 => ?_)) | (with_reducible show WP _ _ _ _ _ _ (Value.int (nI _) :: _) _; refine wp_if_eqN (pc := 39) (tgt := 52) dX7_readsLaw_39 (by decide) (by omega) (fun c39 => ?_) (fun c39 => ?_)) | refine wp_if_eq (pc := 39) (tgt := 52) dX7_readsLaw_39 (by decide) (fun c39 => ?_) (fun c39 => ?_)
      refine wp_iconst (pc := 52) (v := nI 0) dX7_readsLaw_52 rfl ?_
      refine wp_zret (pc := 53) dX7_readsLaw_53 rfl (by first | exact Or.inl rfl | exact Or.inr rfl | assumption | exact bI_01 _) ?_
      rotate_left
      rotate_left
      · exact kF h3 1 _ (fun k => by rw [rLaw, p1, p2, p3]) (by omega) l2 r (M2.f9 f3)
      · exact absurd rfl c39
    first | (with_reducible show WP _ _ _ _ _ _ (Value.int (bI _) :: _) _; refine wp_if_eqB (pc := 39) (tgt := 52) dX7_readsLaw_39 (by decide) (fun c39 => ?_) (fun c39 => ?_)) | (with_reducible show WP _ _ _ _ _ _ (Value.int (nI _) :: _) _; refine wp_if_eqN (pc := 39) (tgt := 52) dX7_readsLaw_39 (by decide) (by omega) (fun c39 => ?_) (fun c39 => ?_)) | refine wp_if_eq (pc := 39) (tgt := 52) dX7_readsLaw_39 (by decide) (fun c39 => ?_) (fun c39 => ?_)
    rotate_left
    refine wp_aload_n (pc := 42) (i := 0) dX7_readsLaw_42 rfl rfl ?_
    refine wp_iconst (pc := 43) (v := nI 1) dX7_readsLaw_43 rfl ?_
    refine wp_bipush (pc := 44) (v := nI 6) dX7_readsLaw_44 rfl ?_
    refine wp_cV2i (pc := 46) lk_X7_105 dX7_readsLaw_46 rfl rfl rfl (sp7_readsNumber hY3 hB l3 (by omega) (by omega) (fun n3 n4 p4 l4 h4 hY4 y4 f4 => ?_) (fun w w0 w3 p4 h4 r f4 => ?_))
    rotate_left
    · first | (with_reducible show WP _ _ _ _ _ _ (Value.int (bI _) :: _) _; refine wp_if_neB (pc := 49) (tgt := 54) dX7_readsLaw_49 (by decide) (fun c49 => ?_) (fun c49 => ?_)) | (with_reducible show WP _ _ _ _ _ _ (Value.int (nI _) :: _) _; refine wp_if_neN (pc := 49) (tgt := 54) dX7_readsLaw_49 (by decide) (by omega) (fun c49 => ?_) (fun c49 => ?_)) | refine wp_if_ne (pc := 49) (tgt := 54) dX7_readsLaw_49 (by decide) (fun c49 => ?_) (fun c49 => ?_)
      rotate_left
      refine wp_iconst (pc := 52) (v := nI 0) dX7_readsLaw_52 rfl ?_
      refine wp_zret (pc := 53) dX7_readsLaw_53 rfl (by first | exact Or.inl rfl | exact Or.inr rfl | assumption | exact bI_01 _) ?_
      rotate_left
      · exact absurd rfl c49
      · exact kF h4 w _ (fun k => by rw [rLaw, p1, p2, p3, p4]) w3 l3 r ((M2.f9 f3).f9 f4)
    · exact absurd c39 (by decide)
    have R4 : RW (hs h4 90 1515 (nI (nv B (0 + 1 + nz B (0 + 1) + 1)))) 1512 (up (up zT 2 (nv B (0 + 1))) 3 (nv B (0 + 1 + nz B (0 + 1) + 1))) := RWup (b := 1512) (j := 3) ((R2.f9 f3).f9 f4) (by omega)
    have M4 : FM h (hs h4 90 1515 (nI (nv B (0 + 1 + nz B (0 + 1) + 1)))) := ((M2.f9 f3).f9 f4).hs (by omega)
    have Y4 : RY (hs h4 90 1515 (nI (nv B (0 + 1 + nz B (0 + 1) + 1)))) B _ := hY4.row
    first | (with_reducible show WP _ _ _ _ _ _ (Value.int (bI _) :: _) _; refine wp_if_neB (pc := 49) (tgt := 54) dX7_readsLaw_49 (by decide) (fun c49 => ?_) (fun c49 => ?_)) | (with_reducible show WP _ _ _ _ _ _ (Value.int (nI _) :: _) _; refine wp_if_neN (pc := 49) (tgt := 54) dX7_readsLaw_49 (by decide) (by omega) (fun c49 => ?_) (fun c49 => ?_)) | refine wp_if_ne (pc := 49) (tgt := 54) dX7_readsLaw_49 (by decide) (fun c49 => ?_) (fun c49 => ?_)
    refine wp_aload_n (pc := 54) (i := 0) dX7_readsLaw_54 rfl rfl ?_
    refine wp_gfr (pc := 55) fk_X7_7 dX7_readsLaw_55 rfl rfl (by decide) ?_
    refine wp_sipush (pc := 58) (v := nI 1515) dX7_readsLaw_58 rfl ?_
    refine wp_aload_n (pc := 61) (i := 0) dX7_readsLaw_61 rfl rfl ?_
    refine wp_gfv (pc := 62) fk_X7_99 dX7_readsLaw_62 rfl rfl (by first | with_reducible assumption | with_reducible exact hs_same _ _ _ _ | rfl) ?_
    first | (with_reducible show WP _ _ _ _ _ _ (_ :: Value.int (nI _) :: _) _; refine wp_iastN (pc := 65) dX7_readsLaw_65 rfl (by omega) ?_) | refine wp_iast (pc := 65) dX7_readsLaw_65 rfl (by assumption) rfl ?_
    rotate_left
    rotate_left
    · generalize hs h4 90 1515 (nI (nv B (0 + 1 + nz B (0 + 1) + 1))) = h4' at *
      refine wp_aload_n (pc := 66) (i := 0) dX7_readsLaw_66 rfl rfl ?_
      refine wp_bipush (pc := 67) (v := nI 59) dX7_readsLaw_67 rfl ?_
      refine wp_cV1i (pc := 69) lk_X7_102 dX7_readsLaw_69 rfl rfl rfl (sp7_sign Y4 hB l4 (by omega) (fun p5 l5 h5 hY5 f5 => ?_) (fun p5 h5 r f5 => ?_))
      rotate_left
      · refine wp_zret (pc := 72) dX7_readsLaw_72 rfl (by first | exact Or.inl rfl | exact Or.inr rfl | assumption | exact bI_01 _) ?_
        rotate_left
        exact kF h5 1 _ (fun k => by rw [rLaw, p1, p2, p3, p4, p5]) (by omega) l4 r (M4.f9 f5)
      · refine wp_zret (pc := 72) dX7_readsLaw_72 rfl (by first | exact Or.inl rfl | exact Or.inr rfl | assumption | exact bI_01 _) ?_
        rotate_left
        exact kO h5 _ _ _ (fun k => by rw [rLaw, p1, p2, p3, p4, p5]) n2 ⟨n3, n4⟩ l5 hY5 (R4.f9 f5) (M4.f9 f5)
    · exact absurd c49 (by decide)
  · exact absurd c16 (by decide)
theorem sp7_readsChild5 {K : Int32 → Hp → Prop} (hY : RY h B a) (hR : RW h 1512 V) (h5 : V 0 = 5) (k : ∀ h', RFl h' B 3 a → F9 h h' → K (nI 0) h') : Call G (d + 3) mX7_readsChild [.ref 89] h (pI K) := by
  have e0 : h 90 1512 = nI 5 := by have := hR 0 (by omega); rw [h5] at this; exact this
  refine Call.of (M := mX7_readsChild) (n := 1) (by decide +kernel) rfl ?_
  show WP _ _ _ _ 0 [some (.ref 89), none] [] _
  refine wp_aload_n (pc := 0) (i := 0) dX7_readsChild_0 rfl rfl ?_
  refine wp_gfr (pc := 1) fk_X7_7 dX7_readsChild_1 rfl rfl (by decide) ?_
  refine wp_sipush (pc := 4) (v := nI 1512) dX7_readsChild_4 rfl ?_
  first | (with_reducible show WP _ _ _ _ _ _ (Value.int (nI _) :: _) _; refine wp_ialdN (pc := 7) dX7_readsChild_7 rfl (by omega) (by first | with_reducible assumption | with_reducible exact hs_same _ _ _ _ | rfl) ?_) | refine wp_iald (pc := 7) dX7_readsChild_7 rfl (by assumption) rfl ?_
  refine wp_istore_n (pc := 8) (i := 1) dX7_readsChild_8 rfl rfl (by decide) rfl ?_
  dsimp only [List.set_cons_zero, List.set_cons_succ]
  refine wp_iload_n (pc := 9) (i := 1) dX7_readsChild_9 rfl rfl ?_
  refine wp_iconst (pc := 10) (v := nI 5) dX7_readsChild_10 rfl ?_
  first | (with_reducible show WP _ _ _ _ _ _ (Value.int (nI _) :: Value.int (nI _) :: _) _; refine wp_icmp_neN (pc := 11) (tgt := 20) dX7_readsChild_11 (by decide) (by omega) (by omega) (fun c11 => ?_) (fun c11 => ?_)) | refine wp_icmp_ne (pc := 11) (tgt := 20) dX7_readsChild_11 (by decide) (fun c11 => ?_) (fun c11 => ?_)
  rotate_left
  refine wp_aload_n (pc := 14) (i := 0) dX7_readsChild_14 rfl rfl ?_
  refine wp_iconst (pc := 15) (v := nI 3) dX7_readsChild_15 rfl ?_
  refine wp_cV1i (pc := 16) lk_X7_93 dX7_readsChild_16 rfl rfl rfl (sp7_refuse hY (fun h1 r f1 => ?_))
  refine wp_zret (pc := 19) dX7_readsChild_19 rfl (by first | exact Or.inl rfl | exact Or.inr rfl | assumption | exact bI_01 _) ?_
  rotate_left
  · exact absurd rfl c11
  · exact k h1 r f1
theorem sp7_readsChild {K : Int32 → Hp → Prop} (hY : RY h B a) (hB : OB B) (ha : a + 1 ≤ B.length) (hR : RW h 1512 V) (h5 : V 0 < 5)
    (kO : ∀ h' f s a', (∀ k, rChild B V (a + 1) k = k (chT V (V 0) f s) a') → f ≤ 60 → s ≤ 20 → a' ≤ B.length → RY h' B a' → RW h' 1512 (chT V (V 0) f s) → FM h h' → K (nI 1) h')
    (kF : ∀ h' w a', (∀ k, rChild B V (a + 1) k = rno w a') → w ≤ 3 → a' ≤ B.length → RFl h' B w a' → FM h h' → K (nI 0) h') : Call G (d + 3) mX7_readsChild [.ref 89] h (pI K) := by
  have l := hB.1
  have e0 : h 90 1512 = nI (V 0) := hR 0 (by omega)
  have x1 := hY.2
  refine Call.of (M := mX7_readsChild) (n := 1) (by decide +kernel) rfl ?_
  show WP _ _ _ _ 0 [some (.ref 89), none] [] _
  refine wp_aload_n (pc := 0) (i := 0) dX7_readsChild_0 rfl rfl ?_
  refine wp_gfr (pc := 1) fk_X7_7 dX7_readsChild_1 rfl rfl (by decide) ?_
  refine wp_sipush (pc := 4) (v := nI 1512) dX7_readsChild_4 rfl ?_
  first | (with_reducible show WP _ _ _ _ _ _ (Value.int (nI _) :: _) _; refine wp_ialdN (pc := 7) dX7_readsChild_7 rfl (by omega) (by first | with_reducible assumption | with_reducible exact hs_same _ _ _ _ | rfl) ?_) | refine wp_iald (pc := 7) dX7_readsChild_7 rfl (by assumption) rfl ?_
  refine wp_istore_n (pc := 8) (i := 1) dX7_readsChild_8 rfl rfl (by decide) rfl ?_
  dsimp only [List.set_cons_zero, List.set_cons_succ]
  refine wp_iload_n (pc := 9) (i := 1) dX7_readsChild_9 rfl rfl ?_
  refine wp_iconst (pc := 10) (v := nI 5) dX7_readsChild_10 rfl ?_
  first | (with_reducible show WP _ _ _ _ _ _ (Value.int (nI _) :: Value.int (nI _) :: _) _; refine wp_icmp_neN (pc := 11) (tgt := 20) dX7_readsChild_11 (by decide) (by omega) (by omega) (fun c11 => ?_) (fun c11 => ?_)) | refine wp_icmp_ne (pc := 11) (tgt := 20) dX7_readsChild_11 (by decide) (fun c11 => ?_) (fun c11 => ?_)
  refine wp_aload_n (pc := 20) (i := 0) dX7_readsChild_20 rfl rfl ?_
  refine wp_dup (pc := 21) dX7_readsChild_21 rfl ?_
  refine wp_gfv (pc := 22) fk_X7_80 dX7_readsChild_22 rfl rfl (by first | with_reducible assumption | with_reducible exact hs_same _ _ _ _ | rfl) ?_
  refine wp_iconst (pc := 25) (v := nI 1) dX7_readsChild_25 rfl ?_
  first | (with_reducible show WP _ _ _ _ _ _ (Value.int (nI _) :: Value.int (nI _) :: _) _; refine wp_iaddN (pc := 26) dX7_readsChild_26 ?_) | refine wp_iadd (pc := 26) dX7_readsChild_26 ?_
  refine wp_pf (pc := 27) fp_X7_80 dX7_readsChild_27 rfl rfl rfl rfl ?_
  rotate_left
  rotate_left
  · have hY0 : RY (hs h 89 13 (nI (a + 1))) B (a + 1) := ry_at hY
    have F0 : F9 h (hs h 89 13 (nI (a + 1))) := (F9.rf h).hs (by omega)
    have R0 := hR.f9 F0
    have M0 := (FM.rf h).f9 F0
    generalize hs h 89 13 (nI (a + 1)) = h0 at *
    refine wp_aload_n (pc := 30) (i := 0) dX7_readsChild_30 rfl rfl ?_
    refine wp_iconst (pc := 31) (v := nI 0) dX7_readsChild_31 rfl ?_
    refine wp_bipush (pc := 32) (v := nI 60) dX7_readsChild_32 rfl ?_
    refine wp_cV2i (pc := 34) lk_X7_105 dX7_readsChild_34 rfl rfl rfl (sp7_readsNumber hY0 hB ha (by omega) (by omega) (fun n1 n2 p2 l2 h2 hY2 y2 f2 => ?_) (fun w w0 w3 p2 h2 r f2 => ?_))
    rotate_left
    · first | (with_reducible show WP _ _ _ _ _ _ (Value.int (bI _) :: _) _; refine wp_if_neB (pc := 37) (tgt := 42) dX7_readsChild_37 (by decide) (fun c37 => ?_) (fun c37 => ?_)) | (with_reducible show WP _ _ _ _ _ _ (Value.int (nI _) :: _) _; refine wp_if_neN (pc := 37) (tgt := 42) dX7_readsChild_37 (by decide) (by omega) (fun c37 => ?_) (fun c37 => ?_)) | refine wp_if_ne (pc := 37) (tgt := 42) dX7_readsChild_37 (by decide) (fun c37 => ?_) (fun c37 => ?_)
      rotate_left
      refine wp_iconst (pc := 40) (v := nI 0) dX7_readsChild_40 rfl ?_
      refine wp_zret (pc := 41) dX7_readsChild_41 rfl (by first | exact Or.inl rfl | exact Or.inr rfl | assumption | exact bI_01 _) ?_
      rotate_left
      · exact absurd rfl c37
      · exact kF h2 w _ (fun k => by rw [rChild, p2]) w3 ha r (M0.f9 f2)
    generalize hv1 : nv B (a + 1) = v1 at *
    have R2 := RWup (v := v1) (R0.f9 f2) (show 5 + V 0 < 56 by omega)
    rw [← Nat.add_assoc] at R2
    have M2 : FM h (hs h2 90 (1512 + 5 + V 0) (nI v1)) := (M0.f9 f2).hs (by omega)
    have Y2 : RY (hs h2 90 (1512 + 5 + V 0) (nI v1)) B _ := hY2.row
    first | (with_reducible show WP _ _ _ _ _ _ (Value.int (bI _) :: _) _; refine wp_if_neB (pc := 37) (tgt := 42) dX7_readsChild_37 (by decide) (fun c37 => ?_) (fun c37 => ?_)) | (with_reducible show WP _ _ _ _ _ _ (Value.int (nI _) :: _) _; refine wp_if_neN (pc := 37) (tgt := 42) dX7_readsChild_37 (by decide) (by omega) (fun c37 => ?_) (fun c37 => ?_)) | refine wp_if_ne (pc := 37) (tgt := 42) dX7_readsChild_37 (by decide) (fun c37 => ?_) (fun c37 => ?_)
    refine wp_aload_n (pc := 42) (i := 0) dX7_readsChild_42 rfl rfl ?_
    refine wp_gfr (pc := 43) fk_X7_7 dX7_readsChild_43 rfl rfl (by decide) ?_
    refine wp_sipush (pc := 46) (v := nI 1517) dX7_readsChild_46 rfl ?_
    refine wp_iload_n (pc := 49) (i := 1) dX7_readsChild_49 rfl rfl ?_
    first | (with_reducible show WP _ _ _ _ _ _ (Value.int (nI _) :: Value.int (nI _) :: _) _; refine wp_iaddN (pc := 50) dX7_readsChild_50 ?_) | refine wp_iadd (pc := 50) dX7_readsChild_50 ?_
    refine wp_aload_n (pc := 51) (i := 0) dX7_readsChild_51 rfl rfl ?_
    refine wp_gfv (pc := 52) fk_X7_99 dX7_readsChild_52 rfl rfl (by first | with_reducible assumption | with_reducible exact hs_same _ _ _ _ | rfl) ?_
    first | (with_reducible show WP _ _ _ _ _ _ (_ :: Value.int (nI _) :: _) _; refine wp_iastN (pc := 55) dX7_readsChild_55 rfl (by omega) ?_) | refine wp_iast (pc := 55) dX7_readsChild_55 rfl (by assumption) rfl ?_
    rotate_left
    rotate_left
    · generalize hs h2 90 (1512 + 5 + V 0) (nI v1) = h2' at *
      show WP G (d + 3) mX7_readsChild (pI K) 56 _ [] h2'
      refine wp_aload_n (pc := 56) (i := 0) dX7_readsChild_56 rfl rfl ?_
      refine wp_bipush (pc := 57) (v := nI 44) dX7_readsChild_57 rfl ?_
      refine wp_cV1i (pc := 59) lk_X7_102 dX7_readsChild_59 rfl rfl rfl (sp7_sign Y2 hB l2 (by omega) (fun p3 l3 h3 hY3 f3 => ?_) (fun p3 h3 r f3 => ?_))
      rotate_left
      · first | (with_reducible show WP _ _ _ _ _ _ (Value.int (bI _) :: _) _; refine wp_if_eqB (pc := 62) (tgt := 75) dX7_readsChild_62 (by decide) (fun c62 => ?_) (fun c62 => ?_)) | (with_reducible show WP _ _ _ _ _ _ (Value.int (nI _) :: _) _; refine wp_if_eqN (pc := 62) (tgt := 75) dX7_readsChild_62 (by decide) (by omega) (fun c62 => ?_) (fun c62 => ?_)) | refine wp_if_eq (pc := 62) (tgt := 75) dX7_readsChild_62 (by decide) (fun c62 => ?_) (fun c62 => ?_)
        refine wp_iconst (pc := 75) (v := nI 0) dX7_readsChild_75 rfl ?_
        refine wp_zret (pc := 76) dX7_readsChild_76 rfl (by first | exact Or.inl rfl | exact Or.inr rfl | assumption | exact bI_01 _) ?_
        rotate_left
        rotate_left
        · exact kF h3 1 _ (fun k => by rw [rChild, p2, p3]) (by omega) l2 r (M2.f9 f3)
        · exact absurd rfl c62
      first | (with_reducible show WP _ _ _ _ _ _ (Value.int (bI _) :: _) _; refine wp_if_eqB (pc := 62) (tgt := 75) dX7_readsChild_62 (by decide) (fun c62 => ?_) (fun c62 => ?_)) | (with_reducible show WP _ _ _ _ _ _ (Value.int (nI _) :: _) _; refine wp_if_eqN (pc := 62) (tgt := 75) dX7_readsChild_62 (by decide) (by omega) (fun c62 => ?_) (fun c62 => ?_)) | refine wp_if_eq (pc := 62) (tgt := 75) dX7_readsChild_62 (by decide) (fun c62 => ?_) (fun c62 => ?_)
      rotate_left
      refine wp_aload_n (pc := 65) (i := 0) dX7_readsChild_65 rfl rfl ?_
      refine wp_iconst (pc := 66) (v := nI 0) dX7_readsChild_66 rfl ?_
      refine wp_bipush (pc := 67) (v := nI 20) dX7_readsChild_67 rfl ?_
      refine wp_cV2i (pc := 69) lk_X7_105 dX7_readsChild_69 rfl rfl rfl (sp7_readsNumber hY3 hB l3 (by omega) (by omega) (fun n3 n4 p4 l4 h4 hY4 y4 f4 => ?_) (fun w w0 w3 p4 h4 r f4 => ?_))
      rotate_left
      · first | (with_reducible show WP _ _ _ _ _ _ (Value.int (bI _) :: _) _; refine wp_if_neB (pc := 72) (tgt := 77) dX7_readsChild_72 (by decide) (fun c72 => ?_) (fun c72 => ?_)) | (with_reducible show WP _ _ _ _ _ _ (Value.int (nI _) :: _) _; refine wp_if_neN (pc := 72) (tgt := 77) dX7_readsChild_72 (by decide) (by omega) (fun c72 => ?_) (fun c72 => ?_)) | refine wp_if_ne (pc := 72) (tgt := 77) dX7_readsChild_72 (by decide) (fun c72 => ?_) (fun c72 => ?_)
        rotate_left
        refine wp_iconst (pc := 75) (v := nI 0) dX7_readsChild_75 rfl ?_
        refine wp_zret (pc := 76) dX7_readsChild_76 rfl (by first | exact Or.inl rfl | exact Or.inr rfl | assumption | exact bI_01 _) ?_
        rotate_left
        · exact absurd rfl c72
        · exact kF h4 w _ (fun k => by rw [rChild, p2, p3, p4]) w3 l3 r ((M2.f9 f3).f9 f4)
      · exact absurd c62 (by decide)
      generalize hv2 : nv B (a + 1 + nz B (a + 1) + 1) = v2 at *
      have R4 := RWup (v := v2) ((R2.f9 f3).f9 f4) (show 10 + V 0 < 56 by omega)
      rw [← Nat.add_assoc] at R4
      have M4 : FM h (hs h4 90 (1512 + 10 + V 0) (nI v2)) := ((M2.f9 f3).f9 f4).hs (by omega)
      have Y4 : RY (hs h4 90 (1512 + 10 + V 0) (nI v2)) B _ := hY4.row
      first | (with_reducible show WP _ _ _ _ _ _ (Value.int (bI _) :: _) _; refine wp_if_neB (pc := 72) (tgt := 77) dX7_readsChild_72 (by decide) (fun c72 => ?_) (fun c72 => ?_)) | (with_reducible show WP _ _ _ _ _ _ (Value.int (nI _) :: _) _; refine wp_if_neN (pc := 72) (tgt := 77) dX7_readsChild_72 (by decide) (by omega) (fun c72 => ?_) (fun c72 => ?_)) | refine wp_if_ne (pc := 72) (tgt := 77) dX7_readsChild_72 (by decide) (fun c72 => ?_) (fun c72 => ?_)
      refine wp_aload_n (pc := 77) (i := 0) dX7_readsChild_77 rfl rfl ?_
      refine wp_gfr (pc := 78) fk_X7_7 dX7_readsChild_78 rfl rfl (by decide) ?_
      refine wp_sipush (pc := 81) (v := nI 1522) dX7_readsChild_81 rfl ?_
      refine wp_iload_n (pc := 84) (i := 1) dX7_readsChild_84 rfl rfl ?_
      first | (with_reducible show WP _ _ _ _ _ _ (Value.int (nI _) :: Value.int (nI _) :: _) _; refine wp_iaddN (pc := 85) dX7_readsChild_85 ?_) | refine wp_iadd (pc := 85) dX7_readsChild_85 ?_
      refine wp_aload_n (pc := 86) (i := 0) dX7_readsChild_86 rfl rfl ?_
      refine wp_gfv (pc := 87) fk_X7_99 dX7_readsChild_87 rfl rfl (by first | with_reducible assumption | with_reducible exact hs_same _ _ _ _ | rfl) ?_
      first | (with_reducible show WP _ _ _ _ _ _ (_ :: Value.int (nI _) :: _) _; refine wp_iastN (pc := 90) dX7_readsChild_90 rfl (by omega) ?_) | refine wp_iast (pc := 90) dX7_readsChild_90 rfl (by assumption) rfl ?_
      rotate_left
      rotate_left
      · generalize hs h4 90 (1512 + 10 + V 0) (nI v2) = h4' at *
        show WP G (d + 3) mX7_readsChild (pI K) 91 _ [] h4'
        have e4 : h4' 90 1512 = nI (V 0) := by
          have := R4 0 (by omega)
          rw [up_ne (by omega), up_ne (by omega)] at this
          exact this
        have R5 : RW (hs h4' 90 1512 (nI (V 0 + 1))) 1512 (chT V (V 0) v1 v2) := RWup (v := V 0 + 1) R4 (show 0 < 56 by omega)
        have M5 : FM h (hs h4' 90 1512 (nI (V 0 + 1))) := M4.hs (by omega)
        have Y5 : RY (hs h4' 90 1512 (nI (V 0 + 1))) B _ := Y4.row
        refine wp_aload_n (pc := 91) (i := 0) dX7_readsChild_91 rfl rfl ?_
        refine wp_gfr (pc := 92) fk_X7_7 dX7_readsChild_92 rfl rfl (by decide) ?_
        refine wp_sipush (pc := 95) (v := nI 1512) dX7_readsChild_95 rfl ?_
        refine wp_dup2 (pc := 98) dX7_readsChild_98 rfl rfl ?_
        first | (with_reducible show WP _ _ _ _ _ _ (Value.int (nI _) :: _) _; refine wp_ialdN (pc := 99) dX7_readsChild_99 rfl (by omega) (by first | with_reducible assumption | with_reducible exact hs_same _ _ _ _ | rfl) ?_) | refine wp_iald (pc := 99) dX7_readsChild_99 rfl (by assumption) rfl ?_
        refine wp_iconst (pc := 100) (v := nI 1) dX7_readsChild_100 rfl ?_
        first | (with_reducible show WP _ _ _ _ _ _ (Value.int (nI _) :: Value.int (nI _) :: _) _; refine wp_iaddN (pc := 101) dX7_readsChild_101 ?_) | refine wp_iadd (pc := 101) dX7_readsChild_101 ?_
        first | (with_reducible show WP _ _ _ _ _ _ (_ :: Value.int (nI _) :: _) _; refine wp_iastN (pc := 102) dX7_readsChild_102 rfl (by omega) ?_) | refine wp_iast (pc := 102) dX7_readsChild_102 rfl (by assumption) rfl ?_
        rotate_left
        generalize hs h4' 90 1512 (nI (V 0 + 1)) = h5' at *
        refine wp_aload_n (pc := 103) (i := 0) dX7_readsChild_103 rfl rfl ?_
        refine wp_bipush (pc := 104) (v := nI 59) dX7_readsChild_104 rfl ?_
        refine wp_cV1i (pc := 106) lk_X7_102 dX7_readsChild_106 rfl rfl rfl (sp7_sign Y5 hB l4 (by omega) (fun p5 l5 h5 hY5 f5 => ?_) (fun p5 h5 r f5 => ?_))
        rotate_left
        · refine wp_zret (pc := 109) dX7_readsChild_109 rfl (by first | exact Or.inl rfl | exact Or.inr rfl | assumption | exact bI_01 _) ?_
          rotate_left
          exact kF h5 1 _ (fun k => by rw [rChild, p2, p3, p4, p5]) (by omega) l4 r (M5.f9 f5)
        · refine wp_zret (pc := 109) dX7_readsChild_109 rfl (by first | exact Or.inl rfl | exact Or.inr rfl | assumption | exact bI_01 _) ?_
          rotate_left
          exact kO h5 v1 v2 _ (fun k => by rw [rChild, p2, p3, p4, p5]) n2 n4 l5 hY5 (R5.f9 f5) (M5.f9 f5)
      · exact absurd c72 (by decide)
    · exact absurd c37 (by decide)
  · exact absurd c11 (by omega)
theorem sp7_readsGran6 {K : Int32 → Hp → Prop} (hY : RY h B a) (hR : RW h 1512 V) (h6 : V 1 = 6) (k : ∀ h', RFl h' B 3 a → F9 h h' → K (nI 0) h') : Call G (d + 3) mX7_readsGran [.ref 89] h (pI K) := by
  have e0 : h 90 1513 = nI 6 := by have := hR 1 (by omega); rw [h6] at this; exact this
  refine Call.of (M := mX7_readsGran) (n := 1) (by decide +kernel) rfl ?_
  show WP _ _ _ _ 0 [some (.ref 89), none] [] _
  refine wp_aload_n (pc := 0) (i := 0) dX7_readsGran_0 rfl rfl ?_
  refine wp_gfr (pc := 1) fk_X7_7 dX7_readsGran_1 rfl rfl (by decide) ?_
  refine wp_sipush (pc := 4) (v := nI 1513) dX7_readsGran_4 rfl ?_
  first | (with_reducible show WP _ _ _ _ _ _ (Value.int (nI _) :: _) _; refine wp_ialdN (pc := 7) dX7_readsGran_7 rfl (by omega) (by first | with_reducible assumption | with_reducible exact hs_same _ _ _ _ | rfl) ?_) | refine wp_iald (pc := 7) dX7_readsGran_7 rfl (by assumption) rfl ?_
  refine wp_istore_n (pc := 8) (i := 1) dX7_readsGran_8 rfl rfl (by decide) rfl ?_
  dsimp only [List.set_cons_zero, List.set_cons_succ]
  refine wp_iload_n (pc := 9) (i := 1) dX7_readsGran_9 rfl rfl ?_
  refine wp_bipush (pc := 10) (v := nI 6) dX7_readsGran_10 rfl ?_
  first | (with_reducible show WP _ _ _ _ _ _ (Value.int (nI _) :: Value.int (nI _) :: _) _; refine wp_icmp_neN (pc := 12) (tgt := 21) dX7_readsGran_12 (by decide) (by omega) (by omega) (fun c12 => ?_) (fun c12 => ?_)) | refine wp_icmp_ne (pc := 12) (tgt := 21) dX7_readsGran_12 (by decide) (fun c12 => ?_) (fun c12 => ?_)
  rotate_left
  refine wp_aload_n (pc := 15) (i := 0) dX7_readsGran_15 rfl rfl ?_
  refine wp_iconst (pc := 16) (v := nI 3) dX7_readsGran_16 rfl ?_
  refine wp_cV1i (pc := 17) lk_X7_93 dX7_readsGran_17 rfl rfl rfl (sp7_refuse hY (fun h1 r f1 => ?_))
  refine wp_zret (pc := 20) dX7_readsGran_20 rfl (by first | exact Or.inl rfl | exact Or.inr rfl | assumption | exact bI_01 _) ?_
  rotate_left
  · exact absurd rfl c12
  · exact k h1 r f1
theorem sp7_readsGran {K : Int32 → Hp → Prop} (hY : RY h B a) (hB : OB B) (hko : 0 < ko B a) (hR : RW h 1512 V) (h6 : V 1 < 6) (v0 : 0 < V 0) (v5 : V 0 ≤ 5)
    (kO : ∀ h' r f p a', (∀ k, rGran B V (ko B a) (a + 1) k = k (grT V (V 1) (ko B a) r f p) a') → r ≤ 9 → f < V 0 → p ≤ 4 → a' ≤ B.length → RY h' B a' → RW h' 1512 (grT V (V 1) (ko B a) r f p) → FM h h' → K (nI 1) h')
    (kF : ∀ h' w a', (∀ k, rGran B V (ko B a) (a + 1) k = rno w a') → w ≤ 3 → a' ≤ B.length → RFl h' B w a' → FM h h' → K (nI 0) h') : Call G (d + 3) mX7_readsGran [.ref 89] h (pI K) := by
  have l := hB.1
  have e0 : h 90 1513 = nI (V 1) := hR 1 (by omega)
  have x1 := hY.2
  obtain ⟨b, hb⟩ : ∃ b, B[a]? = some b := by
    cases q : B[a]? with
    | none => rw [ko_none q] at hko; omega
    | some b => exact ⟨b, rfl⟩
  have ha : a + 1 ≤ B.length := by have := (List.getElem?_eq_some_iff.mp hb).1; omega
  have eb := hY.1.2 a b hb
  have hb2 := hB.2 a b hb
  have kk := ko_some hb
  generalize ko B a = kv at *
  refine Call.of (M := mX7_readsGran) (n := 1) (by decide +kernel) rfl ?_
  show WP _ _ _ _ 0 [some (.ref 89), none] [] _
  refine wp_aload_n (pc := 0) (i := 0) dX7_readsGran_0 rfl rfl ?_
  refine wp_gfr (pc := 1) fk_X7_7 dX7_readsGran_1 rfl rfl (by decide) ?_
  refine wp_sipush (pc := 4) (v := nI 1513) dX7_readsGran_4 rfl ?_
  first | (with_reducible show WP _ _ _ _ _ _ (Value.int (nI _) :: _) _; refine wp_ialdN (pc := 7) dX7_readsGran_7 rfl (by omega) (by first | with_reducible assumption | with_reducible exact hs_same _ _ _ _ | rfl) ?_) | refine wp_iald (pc := 7) dX7_readsGran_7 rfl (by assumption) rfl ?_
  refine wp_istore_n (pc := 8) (i := 1) dX7_readsGran_8 rfl rfl (by decide) rfl ?_
  dsimp only [List.set_cons_zero, List.set_cons_succ]
  refine wp_iload_n (pc := 9) (i := 1) dX7_readsGran_9 rfl rfl ?_
  refine wp_bipush (pc := 10) (v := nI 6) dX7_readsGran_10 rfl ?_
  first | (with_reducible show WP _ _ _ _ _ _ (Value.int (nI _) :: Value.int (nI _) :: _) _; refine wp_icmp_neN (pc := 12) (tgt := 21) dX7_readsGran_12 (by decide) (by omega) (by omega) (fun c12 => ?_) (fun c12 => ?_)) | refine wp_icmp_ne (pc := 12) (tgt := 21) dX7_readsGran_12 (by decide) (fun c12 => ?_) (fun c12 => ?_)
  refine wp_aload_n (pc := 21) (i := 0) dX7_readsGran_21 rfl rfl ?_
  refine wp_gfr (pc := 22) fk_X7_7 dX7_readsGran_22 rfl rfl (by decide) ?_
  refine wp_sipush (pc := 25) (v := nI 1532) dX7_readsGran_25 rfl ?_
  refine wp_iload_n (pc := 28) (i := 1) dX7_readsGran_28 rfl rfl ?_
  first | (with_reducible show WP _ _ _ _ _ _ (Value.int (nI _) :: Value.int (nI _) :: _) _; refine wp_iaddN (pc := 29) dX7_readsGran_29 ?_) | refine wp_iadd (pc := 29) dX7_readsGran_29 ?_
  refine wp_aload_n (pc := 30) (i := 0) dX7_readsGran_30 rfl rfl ?_
  refine wp_gfr (pc := 31) fk_X7_26 dX7_readsGran_31 rfl rfl (by decide) ?_
  refine wp_aload_n (pc := 34) (i := 0) dX7_readsGran_34 rfl rfl ?_
  refine wp_gfv (pc := 35) fk_X7_80 dX7_readsGran_35 rfl rfl (by first | with_reducible assumption | with_reducible exact hs_same _ _ _ _ | rfl) ?_
  first | (with_reducible show WP _ _ _ _ _ _ (Value.int (nI _) :: _) _; refine wp_ialdN (pc := 38) dX7_readsGran_38 rfl (by omega) (by first | with_reducible assumption | with_reducible exact hs_same _ _ _ _ | rfl) ?_) | refine wp_iald (pc := 38) dX7_readsGran_38 rfl (by assumption) rfl ?_
  refine wp_cS1i (pc := 39) lk_X7_109 dX7_readsGran_39 rfl (sp7_kindOfLetter hb2 ?_)
  rotate_left
  rotate_left
  · rw [← kk]
    have R1 := RWup (v := kv) hR (show 20 + V 1 < 56 by omega)
    rw [← Nat.add_assoc] at R1
    have M1 : FM h (hs h 90 (1512 + 20 + V 1) (nI kv)) := (FM.rf h).hs (by omega)
    have Y1 : RY (hs h 90 (1512 + 20 + V 1) (nI kv)) B a := hY.row
    first | (with_reducible show WP _ _ _ _ _ _ (_ :: Value.int (nI _) :: _) _; refine wp_iastN (pc := 42) dX7_readsGran_42 rfl (by omega) ?_) | refine wp_iast (pc := 42) dX7_readsGran_42 rfl (by assumption) rfl ?_
    rotate_left
    generalize hs h 90 (1512 + 20 + V 1) (nI kv) = h1 at *
    show WP G (d + 3) mX7_readsGran (pI K) 43 _ [] h1
    have x1' := Y1.2
    refine wp_aload_n (pc := 43) (i := 0) dX7_readsGran_43 rfl rfl ?_
    refine wp_dup (pc := 44) dX7_readsGran_44 rfl ?_
    refine wp_gfv (pc := 45) fk_X7_80 dX7_readsGran_45 rfl rfl (by first | with_reducible assumption | with_reducible exact hs_same _ _ _ _ | rfl) ?_
    refine wp_iconst (pc := 48) (v := nI 1) dX7_readsGran_48 rfl ?_
    first | (with_reducible show WP _ _ _ _ _ _ (Value.int (nI _) :: Value.int (nI _) :: _) _; refine wp_iaddN (pc := 49) dX7_readsGran_49 ?_) | refine wp_iadd (pc := 49) dX7_readsGran_49 ?_
    refine wp_pf (pc := 50) fp_X7_80 dX7_readsGran_50 rfl rfl rfl rfl ?_
    rotate_left
    have hY0 : RY (hs h1 89 13 (nI (a + 1))) B (a + 1) := ry_at Y1
    have F0 : F9 h1 (hs h1 89 13 (nI (a + 1))) := (F9.rf h1).hs (by omega)
    have R0 := R1.f9 F0
    have M0 := M1.f9 F0
    generalize hs h1 89 13 (nI (a + 1)) = h0 at *
    refine wp_aload_n (pc := 53) (i := 0) dX7_readsGran_53 rfl rfl ?_
    refine wp_iconst (pc := 54) (v := nI 1) dX7_readsGran_54 rfl ?_
    refine wp_bipush (pc := 55) (v := nI 9) dX7_readsGran_55 rfl ?_
    refine wp_cV2i (pc := 57) lk_X7_105 dX7_readsGran_57 rfl rfl rfl (sp7_readsNumber hY0 hB ha (by omega) (by omega) (fun n1 n2 p2 l2 h2 hY2 y2 f2 => ?_) (fun w w0 w3 p2 h2 r f2 => ?_))
    rotate_left
    · first | (with_reducible show WP _ _ _ _ _ _ (Value.int (bI _) :: _) _; refine wp_if_neB (pc := 60) (tgt := 65) dX7_readsGran_60 (by decide) (fun c60 => ?_) (fun c60 => ?_)) | (with_reducible show WP _ _ _ _ _ _ (Value.int (nI _) :: _) _; refine wp_if_neN (pc := 60) (tgt := 65) dX7_readsGran_60 (by decide) (by omega) (fun c60 => ?_) (fun c60 => ?_)) | refine wp_if_ne (pc := 60) (tgt := 65) dX7_readsGran_60 (by decide) (fun c60 => ?_) (fun c60 => ?_)
      rotate_left
      refine wp_iconst (pc := 63) (v := nI 0) dX7_readsGran_63 rfl ?_
      refine wp_zret (pc := 64) dX7_readsGran_64 rfl (by first | exact Or.inl rfl | exact Or.inr rfl | assumption | exact bI_01 _) ?_
      rotate_left
      · exact absurd rfl c60
      · exact kF h2 w _ (fun k => by rw [rGran, p2]) w3 ha r (M0.f9 f2)
    generalize hv1 : nv B (a + 1) = v1 at *
    have R2 := RWup (v := v1) (R0.f9 f2) (show 26 + V 1 < 56 by omega)
    rw [← Nat.add_assoc] at R2
    have M2 : FM h (hs h2 90 (1512 + 26 + V 1) (nI v1)) := (M0.f9 f2).hs (by omega)
    have Y2 : RY (hs h2 90 (1512 + 26 + V 1) (nI v1)) B _ := hY2.row
    first | (with_reducible show WP _ _ _ _ _ _ (Value.int (bI _) :: _) _; refine wp_if_neB (pc := 60) (tgt := 65) dX7_readsGran_60 (by decide) (fun c60 => ?_) (fun c60 => ?_)) | (with_reducible show WP _ _ _ _ _ _ (Value.int (nI _) :: _) _; refine wp_if_neN (pc := 60) (tgt := 65) dX7_readsGran_60 (by decide) (by omega) (fun c60 => ?_) (fun c60 => ?_)) | refine wp_if_ne (pc := 60) (tgt := 65) dX7_readsGran_60 (by decide) (fun c60 => ?_) (fun c60 => ?_)
    refine wp_aload_n (pc := 65) (i := 0) dX7_readsGran_65 rfl rfl ?_
    refine wp_gfr (pc := 66) fk_X7_7 dX7_readsGran_66 rfl rfl (by decide) ?_
    refine wp_sipush (pc := 69) (v := nI 1538) dX7_readsGran_69 rfl ?_
    refine wp_iload_n (pc := 72) (i := 1) dX7_readsGran_72 rfl rfl ?_
    first | (with_reducible show WP _ _ _ _ _ _ (Value.int (nI _) :: Value.int (nI _) :: _) _; refine wp_iaddN (pc := 73) dX7_readsGran_73 ?_) | refine wp_iadd (pc := 73) dX7_readsGran_73 ?_
    refine wp_aload_n (pc := 74) (i := 0) dX7_readsGran_74 rfl rfl ?_
    refine wp_gfv (pc := 75) fk_X7_99 dX7_readsGran_75 rfl rfl (by first | with_reducible assumption | with_reducible exact hs_same _ _ _ _ | rfl) ?_
    first | (with_reducible show WP _ _ _ _ _ _ (_ :: Value.int (nI _) :: _) _; refine wp_iastN (pc := 78) dX7_readsGran_78 rfl (by omega) ?_) | refine wp_iast (pc := 78) dX7_readsGran_78 rfl (by assumption) rfl ?_
    rotate_left
    rotate_left
    · generalize hs h2 90 (1512 + 26 + V 1) (nI v1) = h2' at *
      show WP G (d + 3) mX7_readsGran (pI K) 79 _ [] h2'
      refine wp_aload_n (pc := 79) (i := 0) dX7_readsGran_79 rfl rfl ?_
      refine wp_bipush (pc := 80) (v := nI 44) dX7_readsGran_80 rfl ?_
      refine wp_cV1i (pc := 82) lk_X7_102 dX7_readsGran_82 rfl rfl rfl (sp7_sign Y2 hB l2 (by omega) (fun p3 l3 h3 hY3 f3 => ?_) (fun p3 h3 r f3 => ?_))
      rotate_left
      · first | (with_reducible show WP _ _ _ _ _ _ (Value.int (bI _) :: _) _; refine wp_if_eqB (pc := 85) (tgt := 106) dX7_readsGran_85 (by decide) (fun c85 => ?_) (fun c85 => ?_)) | (with_reducible show WP _ _ _ _ _ _ (Value.int (nI _) :: _) _; refine wp_if_eqN (pc := 85) (tgt := 106) dX7_readsGran_85 (by decide) (by omega) (fun c85 => ?_) (fun c85 => ?_)) | refine wp_if_eq (pc := 85) (tgt := 106) dX7_readsGran_85 (by decide) (fun c85 => ?_) (fun c85 => ?_)
        refine wp_iconst (pc := 106) (v := nI 0) dX7_readsGran_106 rfl ?_
        refine wp_zret (pc := 107) dX7_readsGran_107 rfl (by first | exact Or.inl rfl | exact Or.inr rfl | assumption | exact bI_01 _) ?_
        rotate_left
        rotate_left
        · exact kF h3 1 _ (fun k => by rw [rGran, p2, p3]) (by omega) l2 r (M2.f9 f3)
        · exact absurd rfl c85
      have R3 := R2.f9 f3
      have e3 : h3 90 1512 = nI (V 0) := by
        have := R3 0 (by omega)
        rw [up_ne (by omega), up_ne (by omega)] at this
        exact this
      first | (with_reducible show WP _ _ _ _ _ _ (Value.int (bI _) :: _) _; refine wp_if_eqB (pc := 85) (tgt := 106) dX7_readsGran_85 (by decide) (fun c85 => ?_) (fun c85 => ?_)) | (with_reducible show WP _ _ _ _ _ _ (Value.int (nI _) :: _) _; refine wp_if_eqN (pc := 85) (tgt := 106) dX7_readsGran_85 (by decide) (by omega) (fun c85 => ?_) (fun c85 => ?_)) | refine wp_if_eq (pc := 85) (tgt := 106) dX7_readsGran_85 (by decide) (fun c85 => ?_) (fun c85 => ?_)
      rotate_left
      refine wp_aload_n (pc := 88) (i := 0) dX7_readsGran_88 rfl rfl ?_
      refine wp_iconst (pc := 89) (v := nI 0) dX7_readsGran_89 rfl ?_
      refine wp_aload_n (pc := 90) (i := 0) dX7_readsGran_90 rfl rfl ?_
      refine wp_gfr (pc := 91) fk_X7_7 dX7_readsGran_91 rfl rfl (by decide) ?_
      refine wp_sipush (pc := 94) (v := nI 1512) dX7_readsGran_94 rfl ?_
      first | (with_reducible show WP _ _ _ _ _ _ (Value.int (nI _) :: _) _; refine wp_ialdN (pc := 97) dX7_readsGran_97 rfl (by omega) (by first | with_reducible assumption | with_reducible exact hs_same _ _ _ _ | rfl) ?_) | refine wp_iald (pc := 97) dX7_readsGran_97 rfl (by assumption) rfl ?_
      refine wp_iconst (pc := 98) (v := nI 1) dX7_readsGran_98 rfl ?_
      first | (with_reducible show WP _ _ _ _ _ _ (Value.int (nI _) :: Value.int (nI _) :: _) _; refine wp_isubN (pc := 99) dX7_readsGran_99 (by omega) ?_) | refine wp_isub (pc := 99) dX7_readsGran_99 ?_
      refine wp_cV2i (pc := 100) lk_X7_105 dX7_readsGran_100 rfl rfl rfl (sp7_readsNumber hY3 hB l3 (by omega) (by omega) (fun n3 n4 p4 l4 h4 hY4 y4 f4 => ?_) (fun w w0 w3 p4 h4 r f4 => ?_))
      rotate_left
      · first | (with_reducible show WP _ _ _ _ _ _ (Value.int (bI _) :: _) _; refine wp_if_neB (pc := 103) (tgt := 108) dX7_readsGran_103 (by decide) (fun c103 => ?_) (fun c103 => ?_)) | (with_reducible show WP _ _ _ _ _ _ (Value.int (nI _) :: _) _; refine wp_if_neN (pc := 103) (tgt := 108) dX7_readsGran_103 (by decide) (by omega) (fun c103 => ?_) (fun c103 => ?_)) | refine wp_if_ne (pc := 103) (tgt := 108) dX7_readsGran_103 (by decide) (fun c103 => ?_) (fun c103 => ?_)
        rotate_left
        refine wp_iconst (pc := 106) (v := nI 0) dX7_readsGran_106 rfl ?_
        refine wp_zret (pc := 107) dX7_readsGran_107 rfl (by first | exact Or.inl rfl | exact Or.inr rfl | assumption | exact bI_01 _) ?_
        rotate_left
        · exact absurd rfl c103
        · exact kF h4 w _ (fun k => by rw [rGran, p2, p3, p4]) w3 l3 r ((M2.f9 f3).f9 f4)
      · exact absurd c85 (by decide)
      generalize hv2 : nv B (a + 1 + nz B (a + 1) + 1) = v2 at *
      have R4 := RWup (v := v2) (R3.f9 f4) (show 32 + V 1 < 56 by omega)
      rw [← Nat.add_assoc] at R4
      have M4 : FM h (hs h4 90 (1512 + 32 + V 1) (nI v2)) := ((M2.f9 f3).f9 f4).hs (by omega)
      have Y4 : RY (hs h4 90 (1512 + 32 + V 1) (nI v2)) B _ := hY4.row
      first | (with_reducible show WP _ _ _ _ _ _ (Value.int (bI _) :: _) _; refine wp_if_neB (pc := 103) (tgt := 108) dX7_readsGran_103 (by decide) (fun c103 => ?_) (fun c103 => ?_)) | (with_reducible show WP _ _ _ _ _ _ (Value.int (nI _) :: _) _; refine wp_if_neN (pc := 103) (tgt := 108) dX7_readsGran_103 (by decide) (by omega) (fun c103 => ?_) (fun c103 => ?_)) | refine wp_if_ne (pc := 103) (tgt := 108) dX7_readsGran_103 (by decide) (fun c103 => ?_) (fun c103 => ?_)
      refine wp_aload_n (pc := 108) (i := 0) dX7_readsGran_108 rfl rfl ?_
      refine wp_gfr (pc := 109) fk_X7_7 dX7_readsGran_109 rfl rfl (by decide) ?_
      refine wp_sipush (pc := 112) (v := nI 1544) dX7_readsGran_112 rfl ?_
      refine wp_iload_n (pc := 115) (i := 1) dX7_readsGran_115 rfl rfl ?_
      first | (with_reducible show WP _ _ _ _ _ _ (Value.int (nI _) :: Value.int (nI _) :: _) _; refine wp_iaddN (pc := 116) dX7_readsGran_116 ?_) | refine wp_iadd (pc := 116) dX7_readsGran_116 ?_
      refine wp_aload_n (pc := 117) (i := 0) dX7_readsGran_117 rfl rfl ?_
      refine wp_gfv (pc := 118) fk_X7_99 dX7_readsGran_118 rfl rfl (by first | with_reducible assumption | with_reducible exact hs_same _ _ _ _ | rfl) ?_
      first | (with_reducible show WP _ _ _ _ _ _ (_ :: Value.int (nI _) :: _) _; refine wp_iastN (pc := 121) dX7_readsGran_121 rfl (by omega) ?_) | refine wp_iast (pc := 121) dX7_readsGran_121 rfl (by assumption) rfl ?_
      rotate_left
      rotate_left
      · generalize hs h4 90 (1512 + 32 + V 1) (nI v2) = h4' at *
        show WP G (d + 3) mX7_readsGran (pI K) 122 _ [] h4'
        refine wp_aload_n (pc := 122) (i := 0) dX7_readsGran_122 rfl rfl ?_
        refine wp_bipush (pc := 123) (v := nI 44) dX7_readsGran_123 rfl ?_
        refine wp_cV1i (pc := 125) lk_X7_102 dX7_readsGran_125 rfl rfl rfl (sp7_sign Y4 hB l4 (by omega) (fun p5 l5 h5 hY5 f5 => ?_) (fun p5 h5 r f5 => ?_))
        rotate_left
        · first | (with_reducible show WP _ _ _ _ _ _ (Value.int (bI _) :: _) _; refine wp_if_eqB (pc := 128) (tgt := 140) dX7_readsGran_128 (by decide) (fun c128 => ?_) (fun c128 => ?_)) | (with_reducible show WP _ _ _ _ _ _ (Value.int (nI _) :: _) _; refine wp_if_eqN (pc := 128) (tgt := 140) dX7_readsGran_128 (by decide) (by omega) (fun c128 => ?_) (fun c128 => ?_)) | refine wp_if_eq (pc := 128) (tgt := 140) dX7_readsGran_128 (by decide) (fun c128 => ?_) (fun c128 => ?_)
          refine wp_iconst (pc := 140) (v := nI 0) dX7_readsGran_140 rfl ?_
          refine wp_zret (pc := 141) dX7_readsGran_141 rfl (by first | exact Or.inl rfl | exact Or.inr rfl | assumption | exact bI_01 _) ?_
          rotate_left
          rotate_left
          · exact kF h5 1 _ (fun k => by rw [rGran, p2, p3, p4, p5]) (by omega) l4 r (M4.f9 f5)
          · exact absurd rfl c128
        first | (with_reducible show WP _ _ _ _ _ _ (Value.int (bI _) :: _) _; refine wp_if_eqB (pc := 128) (tgt := 140) dX7_readsGran_128 (by decide) (fun c128 => ?_) (fun c128 => ?_)) | (with_reducible show WP _ _ _ _ _ _ (Value.int (nI _) :: _) _; refine wp_if_eqN (pc := 128) (tgt := 140) dX7_readsGran_128 (by decide) (by omega) (fun c128 => ?_) (fun c128 => ?_)) | refine wp_if_eq (pc := 128) (tgt := 140) dX7_readsGran_128 (by decide) (fun c128 => ?_) (fun c128 => ?_)
        rotate_left
        refine wp_aload_n (pc := 131) (i := 0) dX7_readsGran_131 rfl rfl ?_
        refine wp_iconst (pc := 132) (v := nI 0) dX7_readsGran_132 rfl ?_
        refine wp_iconst (pc := 133) (v := nI 4) dX7_readsGran_133 rfl ?_
        refine wp_cV2i (pc := 134) lk_X7_105 dX7_readsGran_134 rfl rfl rfl (sp7_readsNumber hY5 hB l5 (by omega) (by omega) (fun n5 n6 p6 l6 h6 hY6 y6 f6 => ?_) (fun w w0 w3 p6 h6 r f6 => ?_))
        rotate_left
        · first | (with_reducible show WP _ _ _ _ _ _ (Value.int (bI _) :: _) _; refine wp_if_neB (pc := 137) (tgt := 142) dX7_readsGran_137 (by decide) (fun c137 => ?_) (fun c137 => ?_)) | (with_reducible show WP _ _ _ _ _ _ (Value.int (nI _) :: _) _; refine wp_if_neN (pc := 137) (tgt := 142) dX7_readsGran_137 (by decide) (by omega) (fun c137 => ?_) (fun c137 => ?_)) | refine wp_if_ne (pc := 137) (tgt := 142) dX7_readsGran_137 (by decide) (fun c137 => ?_) (fun c137 => ?_)
          rotate_left
          refine wp_iconst (pc := 140) (v := nI 0) dX7_readsGran_140 rfl ?_
          refine wp_zret (pc := 141) dX7_readsGran_141 rfl (by first | exact Or.inl rfl | exact Or.inr rfl | assumption | exact bI_01 _) ?_
          rotate_left
          · exact absurd rfl c137
          · exact kF h6 w _ (fun k => by rw [rGran, p2, p3, p4, p5, p6]) w3 l5 r ((M4.f9 f5).f9 f6)
        · exact absurd c128 (by decide)
        generalize hv3 : nv B (a + 1 + nz B (a + 1) + 1 + nz B (a + 1 + nz B (a + 1) + 1) + 1) = v3 at *
        have R6 := RWup (v := v3) ((R4.f9 f5).f9 f6) (show 38 + V 1 < 56 by omega)
        rw [← Nat.add_assoc] at R6
        have M6 : FM h (hs h6 90 (1512 + 38 + V 1) (nI v3)) := ((M4.f9 f5).f9 f6).hs (by omega)
        have Y6 : RY (hs h6 90 (1512 + 38 + V 1) (nI v3)) B _ := hY6.row
        first | (with_reducible show WP _ _ _ _ _ _ (Value.int (bI _) :: _) _; refine wp_if_neB (pc := 137) (tgt := 142) dX7_readsGran_137 (by decide) (fun c137 => ?_) (fun c137 => ?_)) | (with_reducible show WP _ _ _ _ _ _ (Value.int (nI _) :: _) _; refine wp_if_neN (pc := 137) (tgt := 142) dX7_readsGran_137 (by decide) (by omega) (fun c137 => ?_) (fun c137 => ?_)) | refine wp_if_ne (pc := 137) (tgt := 142) dX7_readsGran_137 (by decide) (fun c137 => ?_) (fun c137 => ?_)
        refine wp_aload_n (pc := 142) (i := 0) dX7_readsGran_142 rfl rfl ?_
        refine wp_gfr (pc := 143) fk_X7_7 dX7_readsGran_143 rfl rfl (by decide) ?_
        refine wp_sipush (pc := 146) (v := nI 1550) dX7_readsGran_146 rfl ?_
        refine wp_iload_n (pc := 149) (i := 1) dX7_readsGran_149 rfl rfl ?_
        first | (with_reducible show WP _ _ _ _ _ _ (Value.int (nI _) :: Value.int (nI _) :: _) _; refine wp_iaddN (pc := 150) dX7_readsGran_150 ?_) | refine wp_iadd (pc := 150) dX7_readsGran_150 ?_
        refine wp_aload_n (pc := 151) (i := 0) dX7_readsGran_151 rfl rfl ?_
        refine wp_gfv (pc := 152) fk_X7_99 dX7_readsGran_152 rfl rfl (by first | with_reducible assumption | with_reducible exact hs_same _ _ _ _ | rfl) ?_
        first | (with_reducible show WP _ _ _ _ _ _ (_ :: Value.int (nI _) :: _) _; refine wp_iastN (pc := 155) dX7_readsGran_155 rfl (by omega) ?_) | refine wp_iast (pc := 155) dX7_readsGran_155 rfl (by assumption) rfl ?_
        rotate_left
        rotate_left
        · generalize hs h6 90 (1512 + 38 + V 1) (nI v3) = h6' at *
          show WP G (d + 3) mX7_readsGran (pI K) 156 _ [] h6'
          have e6 : h6' 90 1513 = nI (V 1) := by
            have := R6 1 (by omega)
            rw [up_ne (by omega), up_ne (by omega), up_ne (by omega), up_ne (by omega)] at this
            exact this
          have R7 : RW (hs h6' 90 1513 (nI (V 1 + 1))) 1512 (grT V (V 1) kv v1 v2 v3) := RWup (v := V 1 + 1) R6 (show 1 < 56 by omega)
          have M7 : FM h (hs h6' 90 1513 (nI (V 1 + 1))) := M6.hs (by omega)
          have Y7 : RY (hs h6' 90 1513 (nI (V 1 + 1))) B _ := Y6.row
          refine wp_aload_n (pc := 156) (i := 0) dX7_readsGran_156 rfl rfl ?_
          refine wp_gfr (pc := 157) fk_X7_7 dX7_readsGran_157 rfl rfl (by decide) ?_
          refine wp_sipush (pc := 160) (v := nI 1513) dX7_readsGran_160 rfl ?_
          refine wp_dup2 (pc := 163) dX7_readsGran_163 rfl rfl ?_
          first | (with_reducible show WP _ _ _ _ _ _ (Value.int (nI _) :: _) _; refine wp_ialdN (pc := 164) dX7_readsGran_164 rfl (by omega) (by first | with_reducible assumption | with_reducible exact hs_same _ _ _ _ | rfl) ?_) | refine wp_iald (pc := 164) dX7_readsGran_164 rfl (by assumption) rfl ?_
          refine wp_iconst (pc := 165) (v := nI 1) dX7_readsGran_165 rfl ?_
          first | (with_reducible show WP _ _ _ _ _ _ (Value.int (nI _) :: Value.int (nI _) :: _) _; refine wp_iaddN (pc := 166) dX7_readsGran_166 ?_) | refine wp_iadd (pc := 166) dX7_readsGran_166 ?_
          first | (with_reducible show WP _ _ _ _ _ _ (_ :: Value.int (nI _) :: _) _; refine wp_iastN (pc := 167) dX7_readsGran_167 rfl (by omega) ?_) | refine wp_iast (pc := 167) dX7_readsGran_167 rfl (by assumption) rfl ?_
          rotate_left
          generalize hs h6' 90 1513 (nI (V 1 + 1)) = h7' at *
          refine wp_aload_n (pc := 168) (i := 0) dX7_readsGran_168 rfl rfl ?_
          refine wp_bipush (pc := 169) (v := nI 59) dX7_readsGran_169 rfl ?_
          refine wp_cV1i (pc := 171) lk_X7_102 dX7_readsGran_171 rfl rfl rfl (sp7_sign Y7 hB l6 (by omega) (fun p7 l7 h7 hY7 f7 => ?_) (fun p7 h7 r f7 => ?_))
          rotate_left
          · refine wp_zret (pc := 174) dX7_readsGran_174 rfl (by first | exact Or.inl rfl | exact Or.inr rfl | assumption | exact bI_01 _) ?_
            rotate_left
            exact kF h7 1 _ (fun k => by rw [rGran, p2, p3, p4, p5, p6, p7]) (by omega) l6 r (M7.f9 f7)
          · refine wp_zret (pc := 174) dX7_readsGran_174 rfl (by first | exact Or.inl rfl | exact Or.inr rfl | assumption | exact bI_01 _) ?_
            rotate_left
            exact kO h7 v1 v2 v3 _ (fun k => by rw [rGran, p2, p3, p4, p5, p6, p7]) n2 (by omega) n6 l7 hY7 (R7.f9 f7) (M7.f9 f7)
        · exact absurd c137 (by decide)
      · exact absurd c103 (by decide)
    · exact absurd c60 (by decide)
  · exact absurd c12 (by omega)
end RTOWN
