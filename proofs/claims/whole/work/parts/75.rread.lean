def RY (h : Hp) (B : List Nat) (a : Nat) : Prop := RB h B ∧ h 89 13 = nI a
def RFl (h : Hp) (B : List Nat) (w a : Nat) : Prop := RB h B ∧ h 89 13 = nI a ∧ h 89 14 = nI w
def F9 (h h' : Hp) : Prop := (∀ q, q ≠ 89 → h' q = h q) ∧ ∀ i, i < 13 ∨ 15 < i → h' 89 i = h 89 i
theorem F9.rf (h : Hp) : F9 h h := ⟨fun _ _ => rfl, fun _ _ => rfl⟩
theorem F9.tr {h h1 h2 : Hp} (a : F9 h h1) (b : F9 h1 h2) : F9 h h2 := ⟨fun q e => (b.1 q e).trans (a.1 q e), fun q e => (b.2 q e).trans (a.2 q e)⟩
theorem F9.hs {h h1 : Hp} {i : Nat} {v : Int32} (a : F9 h h1) (hi : 13 ≤ i ∧ i ≤ 15) : F9 h (hs h1 89 i v) := ⟨fun q e => (hs_ne e).trans (a.1 q e), fun j e => (hs_ix (by omega)).trans (a.2 j e)⟩
theorem RB.f9 {h h' : Hp} {B : List Nat} (H : RB h B) (e : F9 h h') : RB h' B := H.cg (e.2 8 (by omega)) (e.1 95 (by decide))
section RREAD
variable {G : Gt} {d : Nat} {h : Hp} {B : List Nat} {a : Nat}
theorem sp7_isLetter {c : Nat} {K : Int32 → Hp → Prop} (hY : RY h B a) (hB : OB B) (ha : a ≤ B.length) (hc : c < 256) (k : K (bI (decide (B[a]? = some c))) h) : Call G d mX7_isLetter [.ref 89, .int (nI c)] h (pI K) := by
  obtain ⟨⟨b1, b2⟩, x1⟩ := id hY
  have l := hB.1
  refine Call.of (M := mX7_isLetter) (n := 0) (by decide +kernel) rfl ?_
  show WP _ _ _ _ 0 [some (.ref 89), some (.int (nI c))] [] _
  by_cases z : a < B.length
  · have q : B[a]? = some B[a] := List.getElem?_eq_getElem z
    have e := b2 a _ q
    have e2 := hB.2 a _ q
    rw [q] at k
    generalize B[a] = b at *
    refine wp_aload_n (pc := 0) (i := 0) dX7_isLetter_0 rfl rfl ?_
    refine wp_gfv (pc := 1) fk_X7_80 dX7_isLetter_1 rfl rfl (by first | with_reducible assumption | with_reducible exact hs_same _ _ _ _ | rfl) ?_
    refine wp_aload_n (pc := 4) (i := 0) dX7_isLetter_4 rfl rfl ?_
    refine wp_gfv (pc := 5) fk_X7_76 dX7_isLetter_5 rfl rfl (by first | with_reducible assumption | with_reducible exact hs_same _ _ _ _ | rfl) ?_
    first | (with_reducible show WP _ _ _ _ _ _ (Value.int (nI _) :: Value.int (nI _) :: _) _; refine wp_icmp_geN (pc := 8) (tgt := 28) dX7_isLetter_8 (by decide) (by omega) (by omega) (fun c8 => ?_) (fun c8 => ?_)) | refine wp_icmp_ge (pc := 8) (tgt := 28) dX7_isLetter_8 (by decide) (fun c8 => ?_) (fun c8 => ?_)
    refine wp_iconst (pc := 28) (v := nI 0) dX7_isLetter_28 rfl ?_
    refine wp_zret (pc := 29) dX7_isLetter_29 rfl (by first | exact Or.inl rfl | exact Or.inr rfl | assumption | exact bI_01 _) ?_
    rotate_left
    refine wp_aload_n (pc := 11) (i := 0) dX7_isLetter_11 rfl rfl ?_
    refine wp_gfr (pc := 12) fk_X7_26 dX7_isLetter_12 rfl rfl (by decide) ?_
    refine wp_aload_n (pc := 15) (i := 0) dX7_isLetter_15 rfl rfl ?_
    refine wp_gfv (pc := 16) fk_X7_80 dX7_isLetter_16 rfl rfl (by first | with_reducible assumption | with_reducible exact hs_same _ _ _ _ | rfl) ?_
    first | (with_reducible show WP _ _ _ _ _ _ (Value.int (nI _) :: _) _; refine wp_ialdN (pc := 19) dX7_isLetter_19 rfl (by omega) (by first | with_reducible assumption | with_reducible exact hs_same _ _ _ _ | rfl) ?_) | refine wp_iald (pc := 19) dX7_isLetter_19 rfl (by assumption) rfl ?_
    refine wp_iload_n (pc := 20) (i := 1) dX7_isLetter_20 rfl rfl ?_
    first | (with_reducible show WP _ _ _ _ _ _ (Value.int (nI _) :: Value.int (nI _) :: _) _; refine wp_icmp_neN (pc := 21) (tgt := 28) dX7_isLetter_21 (by decide) (by omega) (by omega) (fun c21 => ?_) (fun c21 => ?_)) | refine wp_icmp_ne (pc := 21) (tgt := 28) dX7_isLetter_21 (by decide) (fun c21 => ?_) (fun c21 => ?_)
    refine wp_iconst (pc := 28) (v := nI 0) dX7_isLetter_28 rfl ?_
    refine wp_zret (pc := 29) dX7_isLetter_29 rfl (by first | exact Or.inl rfl | exact Or.inr rfl | assumption | exact bI_01 _) ?_
    rotate_left
    refine wp_iconst (pc := 24) (v := nI 1) dX7_isLetter_24 rfl ?_
    refine wp_goto (pc := 25) (tgt := 29) dX7_isLetter_25 (by decide) ?_
    refine wp_zret (pc := 29) dX7_isLetter_29 rfl (by first | exact Or.inl rfl | exact Or.inr rfl | assumption | exact bI_01 _) ?_
    rotate_left
    · exact absurd c8 (by omega)
    · rw [decide_eq_false (fun q => c21 (Option.some.inj q))] at k; exact k
    · rw [decide_eq_true (congrArg some c21)] at k; exact k
  · rw [List.getElem?_eq_none (by omega), decide_eq_false (by simp)] at k
    refine wp_aload_n (pc := 0) (i := 0) dX7_isLetter_0 rfl rfl ?_
    refine wp_gfv (pc := 1) fk_X7_80 dX7_isLetter_1 rfl rfl (by first | with_reducible assumption | with_reducible exact hs_same _ _ _ _ | rfl) ?_
    refine wp_aload_n (pc := 4) (i := 0) dX7_isLetter_4 rfl rfl ?_
    refine wp_gfv (pc := 5) fk_X7_76 dX7_isLetter_5 rfl rfl (by first | with_reducible assumption | with_reducible exact hs_same _ _ _ _ | rfl) ?_
    first | (with_reducible show WP _ _ _ _ _ _ (Value.int (nI _) :: Value.int (nI _) :: _) _; refine wp_icmp_geN (pc := 8) (tgt := 28) dX7_isLetter_8 (by decide) (by omega) (by omega) (fun c8 => ?_) (fun c8 => ?_)) | refine wp_icmp_ge (pc := 8) (tgt := 28) dX7_isLetter_8 (by decide) (fun c8 => ?_) (fun c8 => ?_)
    refine wp_iconst (pc := 28) (v := nI 0) dX7_isLetter_28 rfl ?_
    refine wp_zret (pc := 29) dX7_isLetter_29 rfl (by first | exact Or.inl rfl | exact Or.inr rfl | assumption | exact bI_01 _) ?_
    rotate_left
    rotate_left
    · exact k
    · exact absurd c8 (by omega)
theorem sp7_isFigure {i : Nat} {K : Int32 → Hp → Prop} (hY : RY h B a) (hB : OB B) (hi : i ≤ 200) (k : K (bI (fg B i)) h) : Call G (d + 1) mX7_isFigure [.ref 89, .int (nI i)] h (pI K) := by
  obtain ⟨⟨b1, b2⟩, x1⟩ := id hY
  have l := hB.1
  refine Call.of (M := mX7_isFigure) (n := 0) (by decide +kernel) rfl ?_
  show WP _ _ _ _ 0 [some (.ref 89), some (.int (nI i))] [] _
  by_cases z : i < B.length
  · have q : B[i]? = some B[i] := List.getElem?_eq_getElem z
    have e := b2 i _ q
    have e2 := hB.2 i _ q
    rw [fg_at q] at k
    generalize B[i] = b at *
    refine wp_iload_n (pc := 0) (i := 1) dX7_isFigure_0 rfl rfl ?_
    refine wp_aload_n (pc := 1) (i := 0) dX7_isFigure_1 rfl rfl ?_
    refine wp_gfv (pc := 2) fk_X7_76 dX7_isFigure_2 rfl rfl (by first | with_reducible assumption | with_reducible exact hs_same _ _ _ _ | rfl) ?_
    first | (with_reducible show WP _ _ _ _ _ _ (Value.int (nI _) :: Value.int (nI _) :: _) _; refine wp_icmp_geN (pc := 5) (tgt := 31) dX7_isFigure_5 (by decide) (by omega) (by omega) (fun c5 => ?_) (fun c5 => ?_)) | refine wp_icmp_ge (pc := 5) (tgt := 31) dX7_isFigure_5 (by decide) (fun c5 => ?_) (fun c5 => ?_)
    refine wp_iconst (pc := 31) (v := nI 0) dX7_isFigure_31 rfl ?_
    refine wp_zret (pc := 32) dX7_isFigure_32 rfl (by first | exact Or.inl rfl | exact Or.inr rfl | assumption | exact bI_01 _) ?_
    rotate_left
    refine wp_aload_n (pc := 8) (i := 0) dX7_isFigure_8 rfl rfl ?_
    refine wp_gfr (pc := 9) fk_X7_26 dX7_isFigure_9 rfl rfl (by decide) ?_
    refine wp_iload_n (pc := 12) (i := 1) dX7_isFigure_12 rfl rfl ?_
    first | (with_reducible show WP _ _ _ _ _ _ (Value.int (nI _) :: _) _; refine wp_ialdN (pc := 13) dX7_isFigure_13 rfl (by omega) (by first | with_reducible assumption | with_reducible exact hs_same _ _ _ _ | rfl) ?_) | refine wp_iald (pc := 13) dX7_isFigure_13 rfl (by assumption) rfl ?_
    first | (with_reducible show WP _ _ _ _ _ _ (Value.int (nI _) :: _) _; refine wp_i2lN (pc := 14) dX7_isFigure_14 (by omega) ?_) | refine wp_i2l (pc := 14) dX7_isFigure_14 rfl ?_
    refine wp_ldc2 (pc := 15) kn_X7_83 dX7_isFigure_15 ?_
    refine wp_ldc2 (pc := 18) kn_X7_85 dX7_isFigure_18 ?_
    refine wp_cS3i (pc := 21) lk_X7_48 dX7_isFigure_21 rfl (sp7_btwN (by omega) (by decide) (by decide) ?_)
    first | (with_reducible show WP _ _ _ _ _ _ (Value.int (bI _) :: _) _; refine wp_if_eqB (pc := 24) (tgt := 31) dX7_isFigure_24 (by decide) (fun c24 => ?_) (fun c24 => ?_)) | (with_reducible show WP _ _ _ _ _ _ (Value.int (nI _) :: _) _; refine wp_if_eqN (pc := 24) (tgt := 31) dX7_isFigure_24 (by decide) (by omega) (fun c24 => ?_) (fun c24 => ?_)) | refine wp_if_eq (pc := 24) (tgt := 31) dX7_isFigure_24 (by decide) (fun c24 => ?_) (fun c24 => ?_)
    refine wp_iconst (pc := 31) (v := nI 0) dX7_isFigure_31 rfl ?_
    refine wp_zret (pc := 32) dX7_isFigure_32 rfl (by first | exact Or.inl rfl | exact Or.inr rfl | assumption | exact bI_01 _) ?_
    rotate_left
    refine wp_iconst (pc := 27) (v := nI 1) dX7_isFigure_27 rfl ?_
    refine wp_goto (pc := 28) (tgt := 32) dX7_isFigure_28 (by decide) ?_
    refine wp_zret (pc := 32) dX7_isFigure_32 rfl (by first | exact Or.inl rfl | exact Or.inr rfl | assumption | exact bI_01 _) ?_
    rotate_left
    · exact absurd c5 (by omega)
    · rw [c24] at k; exact k
    · rw [c24] at k; exact k
  · rw [fg_no (by omega)] at k
    refine wp_iload_n (pc := 0) (i := 1) dX7_isFigure_0 rfl rfl ?_
    refine wp_aload_n (pc := 1) (i := 0) dX7_isFigure_1 rfl rfl ?_
    refine wp_gfv (pc := 2) fk_X7_76 dX7_isFigure_2 rfl rfl (by first | with_reducible assumption | with_reducible exact hs_same _ _ _ _ | rfl) ?_
    first | (with_reducible show WP _ _ _ _ _ _ (Value.int (nI _) :: Value.int (nI _) :: _) _; refine wp_icmp_geN (pc := 5) (tgt := 31) dX7_isFigure_5 (by decide) (by omega) (by omega) (fun c5 => ?_) (fun c5 => ?_)) | refine wp_icmp_ge (pc := 5) (tgt := 31) dX7_isFigure_5 (by decide) (fun c5 => ?_) (fun c5 => ?_)
    refine wp_iconst (pc := 31) (v := nI 0) dX7_isFigure_31 rfl ?_
    refine wp_zret (pc := 32) dX7_isFigure_32 rfl (by first | exact Or.inl rfl | exact Or.inr rfl | assumption | exact bI_01 _) ?_
    rotate_left
    rotate_left
    · exact k
    · exact absurd c5 (by omega)
theorem sp7_refuse {w : Nat} {K : Int32 → Hp → Prop} (hY : RY h B a) (k : ∀ h', RFl h' B w a → F9 h h' → K (nI 0) h') : Call G d mX7_refuse [.ref 89, .int (nI w)] h (pI K) := by
  refine Call.of (M := mX7_refuse) (n := 0) (by decide +kernel) rfl ?_
  show WP _ _ _ _ 0 [some (.ref 89), some (.int (nI w))] [] _
  refine wp_aload_n (pc := 0) (i := 0) dX7_refuse_0 rfl rfl ?_
  refine wp_iload_n (pc := 1) (i := 1) dX7_refuse_1 rfl rfl ?_
  refine wp_pf (pc := 2) fp_X7_87 dX7_refuse_2 rfl rfl rfl rfl ?_
  refine wp_iconst (pc := 5) (v := nI 0) dX7_refuse_5 rfl ?_
  refine wp_zret (pc := 6) dX7_refuse_6 rfl (by first | exact Or.inl rfl | exact Or.inr rfl | assumption | exact bI_01 _) ?_
  rotate_left
  have f : F9 h (hs h 89 14 (nI w)) := (F9.rf h).hs (by omega)
  exact k _ ⟨hY.1.f9 f, by rw [hs_ix (by decide)]; exact hY.2, hs_same _ _ _ _⟩ f
theorem sp7_kindOfLetter {b : Nat} {K : Int32 → Hp → Prop} (hb : b < 256) (k : K (nI (kol b)) h) : Call G d mX7_kindOfLetter [.int (nI b)] h (pI K) := by
  refine Call.of (M := mX7_kindOfLetter) (n := 0) (by decide +kernel) rfl ?_
  show WP _ _ _ _ 0 [some (.int (nI b))] [] _
  unfold kol at k
  refine wp_iload_n (pc := 0) (i := 0) dX7_kindOfLetter_0 rfl rfl ?_
  refine wp_bipush (pc := 1) (v := nI 115) dX7_kindOfLetter_1 rfl ?_
  first | (with_reducible show WP _ _ _ _ _ _ (Value.int (nI _) :: Value.int (nI _) :: _) _; refine wp_icmp_neN (pc := 3) (tgt := 10) dX7_kindOfLetter_3 (by decide) (by omega) (by omega) (fun c3 => ?_) (fun c3 => ?_)) | refine wp_icmp_ne (pc := 3) (tgt := 10) dX7_kindOfLetter_3 (by decide) (fun c3 => ?_) (fun c3 => ?_)
  refine wp_iload_n (pc := 10) (i := 0) dX7_kindOfLetter_10 rfl rfl ?_
  refine wp_bipush (pc := 11) (v := nI 111) dX7_kindOfLetter_11 rfl ?_
  first | (with_reducible show WP _ _ _ _ _ _ (Value.int (nI _) :: Value.int (nI _) :: _) _; refine wp_icmp_neN (pc := 13) (tgt := 20) dX7_kindOfLetter_13 (by decide) (by omega) (by omega) (fun c13 => ?_) (fun c13 => ?_)) | refine wp_icmp_ne (pc := 13) (tgt := 20) dX7_kindOfLetter_13 (by decide) (fun c13 => ?_) (fun c13 => ?_)
  refine wp_iload_n (pc := 20) (i := 0) dX7_kindOfLetter_20 rfl rfl ?_
  refine wp_bipush (pc := 21) (v := nI 116) dX7_kindOfLetter_21 rfl ?_
  first | (with_reducible show WP _ _ _ _ _ _ (Value.int (nI _) :: Value.int (nI _) :: _) _; refine wp_icmp_neN (pc := 23) (tgt := 30) dX7_kindOfLetter_23 (by decide) (by omega) (by omega) (fun c23 => ?_) (fun c23 => ?_)) | refine wp_icmp_ne (pc := 23) (tgt := 30) dX7_kindOfLetter_23 (by decide) (fun c23 => ?_) (fun c23 => ?_)
  refine wp_iload_n (pc := 30) (i := 0) dX7_kindOfLetter_30 rfl rfl ?_
  refine wp_bipush (pc := 31) (v := nI 110) dX7_kindOfLetter_31 rfl ?_
  first | (with_reducible show WP _ _ _ _ _ _ (Value.int (nI _) :: Value.int (nI _) :: _) _; refine wp_icmp_neN (pc := 33) (tgt := 40) dX7_kindOfLetter_33 (by decide) (by omega) (by omega) (fun c33 => ?_) (fun c33 => ?_)) | refine wp_icmp_ne (pc := 33) (tgt := 40) dX7_kindOfLetter_33 (by decide) (fun c33 => ?_) (fun c33 => ?_)
  refine wp_iload_n (pc := 40) (i := 0) dX7_kindOfLetter_40 rfl rfl ?_
  refine wp_bipush (pc := 41) (v := nI 119) dX7_kindOfLetter_41 rfl ?_
  first | (with_reducible show WP _ _ _ _ _ _ (Value.int (nI _) :: Value.int (nI _) :: _) _; refine wp_icmp_neN (pc := 43) (tgt := 50) dX7_kindOfLetter_43 (by decide) (by omega) (by omega) (fun c43 => ?_) (fun c43 => ?_)) | refine wp_icmp_ne (pc := 43) (tgt := 50) dX7_kindOfLetter_43 (by decide) (fun c43 => ?_) (fun c43 => ?_)
  refine wp_iconst (pc := 50) (v := nI 0) dX7_kindOfLetter_50 rfl ?_
  refine wp_iret (pc := 51) dX7_kindOfLetter_51 rfl ?_
  rotate_left
  refine wp_iconst (pc := 46) (v := nI 5) dX7_kindOfLetter_46 rfl ?_
  refine wp_goto (pc := 47) (tgt := 51) dX7_kindOfLetter_47 (by decide) ?_
  refine wp_iret (pc := 51) dX7_kindOfLetter_51 rfl ?_
  rotate_left
  refine wp_iconst (pc := 36) (v := nI 4) dX7_kindOfLetter_36 rfl ?_
  refine wp_goto (pc := 37) (tgt := 51) dX7_kindOfLetter_37 (by decide) ?_
  refine wp_iret (pc := 51) dX7_kindOfLetter_51 rfl ?_
  rotate_left
  refine wp_iconst (pc := 26) (v := nI 3) dX7_kindOfLetter_26 rfl ?_
  refine wp_goto (pc := 27) (tgt := 51) dX7_kindOfLetter_27 (by decide) ?_
  refine wp_iret (pc := 51) dX7_kindOfLetter_51 rfl ?_
  rotate_left
  refine wp_iconst (pc := 16) (v := nI 2) dX7_kindOfLetter_16 rfl ?_
  refine wp_goto (pc := 17) (tgt := 51) dX7_kindOfLetter_17 (by decide) ?_
  refine wp_iret (pc := 51) dX7_kindOfLetter_51 rfl ?_
  rotate_left
  refine wp_iconst (pc := 6) (v := nI 1) dX7_kindOfLetter_6 rfl ?_
  refine wp_goto (pc := 7) (tgt := 51) dX7_kindOfLetter_7 (by decide) ?_
  refine wp_iret (pc := 51) dX7_kindOfLetter_51 rfl ?_
  rotate_left
  · rw [if_neg c3, if_neg c13, if_neg c23, if_neg c33, if_neg c43] at k; exact k
  · rw [if_neg c3, if_neg c13, if_neg c23, if_neg c33, if_pos c43] at k; exact k
  · rw [if_neg c3, if_neg c13, if_neg c23, if_pos c33] at k; exact k
  · rw [if_neg c3, if_neg c13, if_pos c23] at k; exact k
  · rw [if_neg c3, if_pos c13] at k; exact k
  · rw [if_pos c3] at k; exact k
theorem sp7_isSort {K : Int32 → Hp → Prop} (hY : RY h B a) (hB : OB B) (ha : a ≤ B.length) (k : K (bI (decide (0 < ko B a))) h) : Call G (d + 1) mX7_isSort [.ref 89] h (pI K) := by
  obtain ⟨⟨b1, b2⟩, x1⟩ := id hY
  have l := hB.1
  refine Call.of (M := mX7_isSort) (n := 0) (by decide +kernel) rfl ?_
  show WP _ _ _ _ 0 [some (.ref 89)] [] _
  by_cases z : a < B.length
  · have q : B[a]? = some B[a] := List.getElem?_eq_getElem z
    have e := b2 a _ q
    have e2 := hB.2 a _ q
    rw [ko_some q] at k
    generalize B[a] = b at *
    have kl := kol_le b
    refine wp_aload_n (pc := 0) (i := 0) dX7_isSort_0 rfl rfl ?_
    refine wp_gfv (pc := 1) fk_X7_80 dX7_isSort_1 rfl rfl (by first | with_reducible assumption | with_reducible exact hs_same _ _ _ _ | rfl) ?_
    refine wp_aload_n (pc := 4) (i := 0) dX7_isSort_4 rfl rfl ?_
    refine wp_gfv (pc := 5) fk_X7_76 dX7_isSort_5 rfl rfl (by first | with_reducible assumption | with_reducible exact hs_same _ _ _ _ | rfl) ?_
    first | (with_reducible show WP _ _ _ _ _ _ (Value.int (nI _) :: Value.int (nI _) :: _) _; refine wp_icmp_geN (pc := 8) (tgt := 30) dX7_isSort_8 (by decide) (by omega) (by omega) (fun c8 => ?_) (fun c8 => ?_)) | refine wp_icmp_ge (pc := 8) (tgt := 30) dX7_isSort_8 (by decide) (fun c8 => ?_) (fun c8 => ?_)
    refine wp_iconst (pc := 30) (v := nI 0) dX7_isSort_30 rfl ?_
    refine wp_zret (pc := 31) dX7_isSort_31 rfl (by first | exact Or.inl rfl | exact Or.inr rfl | assumption | exact bI_01 _) ?_
    rotate_left
    refine wp_aload_n (pc := 11) (i := 0) dX7_isSort_11 rfl rfl ?_
    refine wp_gfr (pc := 12) fk_X7_26 dX7_isSort_12 rfl rfl (by decide) ?_
    refine wp_aload_n (pc := 15) (i := 0) dX7_isSort_15 rfl rfl ?_
    refine wp_gfv (pc := 16) fk_X7_80 dX7_isSort_16 rfl rfl (by first | with_reducible assumption | with_reducible exact hs_same _ _ _ _ | rfl) ?_
    first | (with_reducible show WP _ _ _ _ _ _ (Value.int (nI _) :: _) _; refine wp_ialdN (pc := 19) dX7_isSort_19 rfl (by omega) (by first | with_reducible assumption | with_reducible exact hs_same _ _ _ _ | rfl) ?_) | refine wp_iald (pc := 19) dX7_isSort_19 rfl (by assumption) rfl ?_
    refine wp_cS1i (pc := 20) lk_X7_109 dX7_isSort_20 rfl (sp7_kindOfLetter e2 ?_)
    first | (with_reducible show WP _ _ _ _ _ _ (Value.int (nI _) :: _) _; refine wp_if_leN (pc := 23) (tgt := 30) dX7_isSort_23 (by decide) (by omega) (fun c23 => ?_) (fun c23 => ?_)) | refine wp_if_le (pc := 23) (tgt := 30) dX7_isSort_23 (by decide) (fun c23 => ?_) (fun c23 => ?_)
    refine wp_iconst (pc := 30) (v := nI 0) dX7_isSort_30 rfl ?_
    refine wp_zret (pc := 31) dX7_isSort_31 rfl (by first | exact Or.inl rfl | exact Or.inr rfl | assumption | exact bI_01 _) ?_
    rotate_left
    refine wp_iconst (pc := 26) (v := nI 1) dX7_isSort_26 rfl ?_
    refine wp_goto (pc := 27) (tgt := 31) dX7_isSort_27 (by decide) ?_
    refine wp_zret (pc := 31) dX7_isSort_31 rfl (by first | exact Or.inl rfl | exact Or.inr rfl | assumption | exact bI_01 _) ?_
    rotate_left
    · exact absurd c8 (by omega)
    · rw [decide_eq_false (by omega)] at k; exact k
    · rw [decide_eq_true (by omega)] at k; exact k
  · rw [ko_none (List.getElem?_eq_none (by omega))] at k
    refine wp_aload_n (pc := 0) (i := 0) dX7_isSort_0 rfl rfl ?_
    refine wp_gfv (pc := 1) fk_X7_80 dX7_isSort_1 rfl rfl (by first | with_reducible assumption | with_reducible exact hs_same _ _ _ _ | rfl) ?_
    refine wp_aload_n (pc := 4) (i := 0) dX7_isSort_4 rfl rfl ?_
    refine wp_gfv (pc := 5) fk_X7_76 dX7_isSort_5 rfl rfl (by first | with_reducible assumption | with_reducible exact hs_same _ _ _ _ | rfl) ?_
    first | (with_reducible show WP _ _ _ _ _ _ (Value.int (nI _) :: Value.int (nI _) :: _) _; refine wp_icmp_geN (pc := 8) (tgt := 30) dX7_isSort_8 (by decide) (by omega) (by omega) (fun c8 => ?_) (fun c8 => ?_)) | refine wp_icmp_ge (pc := 8) (tgt := 30) dX7_isSort_8 (by decide) (fun c8 => ?_) (fun c8 => ?_)
    refine wp_iconst (pc := 30) (v := nI 0) dX7_isSort_30 rfl ?_
    refine wp_zret (pc := 31) dX7_isSort_31 rfl (by first | exact Or.inl rfl | exact Or.inr rfl | assumption | exact bI_01 _) ?_
    rotate_left
    rotate_left
    · exact k
    · exact absurd c8 (by omega)
theorem ry_at {n : Nat} (hY : RY h B a) : RY (hs h 89 13 (nI (a + n))) B (a + n) := ⟨hY.1.f9 ((F9.rf h).hs (by omega)), hs_same _ _ _ _⟩
theorem sp7_sign {c : Nat} {K : Int32 → Hp → Prop} (hY : RY h B a) (hB : OB B) (ha : a ≤ B.length) (hc : c < 256) (k1 : (∀ k, rS B c a k = k (a + 1)) → a + 1 ≤ B.length → ∀ h', RY h' B (a + 1) → F9 h h' → K (nI 1) h') (k0 : (∀ k, rS B c a k = rno 1 a) → ∀ h', RFl h' B 1 a → F9 h h' → K (nI 0) h') : Call G (d + 1) mX7_sign [.ref 89, .int (nI c)] h (pI K) := by
  have x1 := hY.2
  refine Call.of (M := mX7_sign) (n := 0) (by decide +kernel) rfl ?_
  show WP _ _ _ _ 0 [some (.ref 89), some (.int (nI c))] [] _
  refine wp_aload_n (pc := 0) (i := 0) dX7_sign_0 rfl rfl ?_
  refine wp_iload_n (pc := 1) (i := 1) dX7_sign_1 rfl rfl ?_
  refine wp_cV1i (pc := 2) lk_X7_90 dX7_sign_2 rfl rfl rfl (sp7_isLetter hY hB ha hc ?_)
  first | (with_reducible show WP _ _ _ _ _ _ (Value.int (bI _) :: _) _; refine wp_if_neB (pc := 5) (tgt := 14) dX7_sign_5 (by decide) (fun c5 => ?_) (fun c5 => ?_)) | (with_reducible show WP _ _ _ _ _ _ (Value.int (nI _) :: _) _; refine wp_if_neN (pc := 5) (tgt := 14) dX7_sign_5 (by decide) (by omega) (fun c5 => ?_) (fun c5 => ?_)) | refine wp_if_ne (pc := 5) (tgt := 14) dX7_sign_5 (by decide) (fun c5 => ?_) (fun c5 => ?_)
  refine wp_aload_n (pc := 14) (i := 0) dX7_sign_14 rfl rfl ?_
  refine wp_dup (pc := 15) dX7_sign_15 rfl ?_
  refine wp_gfv (pc := 16) fk_X7_80 dX7_sign_16 rfl rfl (by first | with_reducible assumption | with_reducible exact hs_same _ _ _ _ | rfl) ?_
  refine wp_iconst (pc := 19) (v := nI 1) dX7_sign_19 rfl ?_
  first | (with_reducible show WP _ _ _ _ _ _ (Value.int (nI _) :: Value.int (nI _) :: _) _; refine wp_iaddN (pc := 20) dX7_sign_20 ?_) | refine wp_iadd (pc := 20) dX7_sign_20 ?_
  refine wp_pf (pc := 21) fp_X7_80 dX7_sign_21 rfl rfl rfl rfl ?_
  refine wp_iconst (pc := 24) (v := nI 1) dX7_sign_24 rfl ?_
  refine wp_zret (pc := 25) dX7_sign_25 rfl (by first | exact Or.inl rfl | exact Or.inr rfl | assumption | exact bI_01 _) ?_
  rotate_left
  refine wp_aload_n (pc := 8) (i := 0) dX7_sign_8 rfl rfl ?_
  refine wp_iconst (pc := 9) (v := nI 1) dX7_sign_9 rfl ?_
  refine wp_cV1i (pc := 10) lk_X7_93 dX7_sign_10 rfl rfl rfl (sp7_refuse hY (fun h' r f => ?_))
  refine wp_zret (pc := 13) dX7_sign_13 rfl (by first | exact Or.inl rfl | exact Or.inr rfl | assumption | exact bI_01 _) ?_
  rotate_left
  · have q := of_decide_eq_true c5
    exact k1 (fun _ => rS_t q) (by have := (List.getElem?_eq_some_iff.mp q).1; omega) _ (ry_at hY) ((F9.rf h).hs (by omega))
  · exact k0 (fun _ => rS_f (of_decide_eq_false c5)) h' r f
theorem sp7_readsNumber {lo hi : Nat} {K : Int32 → Hp → Prop} (hY : RY h B a) (hB : OB B) (ha : a ≤ B.length) (hlo : lo < 2 ^ 31) (hhi : hi < 2 ^ 31)
    (k1 : lo ≤ nv B a → nv B a ≤ hi → (∀ k, rN B lo hi a k = k (nv B a) (a + nz B a)) → a + nz B a ≤ B.length → ∀ h', RY h' B (a + nz B a) → h' 89 15 = nI (nv B a) → F9 h h' → K (nI 1) h')
    (k0 : ∀ w, ¬ w = 0 → w ≤ 3 → (∀ k, rN B lo hi a k = rno w a) → ∀ h', RFl h' B w a → F9 h h' → K (nI 0) h') : Call G (d + 2) mX7_readsNumber [.ref 89, .int (nI lo), .int (nI hi)] h (pI K) := by
  obtain ⟨⟨b1, b2⟩, x1⟩ := id hY
  have l := hB.1
  refine Call.of (M := mX7_readsNumber) (n := 1) (by decide +kernel) rfl ?_
  show WP _ _ _ _ 0 [some (.ref 89), some (.int (nI lo)), some (.int (nI hi)), none] [] _
  have bad : nok B a = false → WP G (d + 2) mX7_readsNumber (pI K) 37 [some (.ref 89), some (.int (nI lo)), some (.int (nI hi)), none] [] h := by
    intro q
    refine wp_aload_n (pc := 37) (i := 0) dX7_readsNumber_37 rfl rfl ?_
    refine wp_iconst (pc := 38) (v := nI 1) dX7_readsNumber_38 rfl ?_
    refine wp_cV1i (pc := 39) lk_X7_93 dX7_readsNumber_39 rfl rfl rfl (sp7_refuse hY (fun h' r f => ?_))
    refine wp_zret (pc := 42) dX7_readsNumber_42 rfl (by first | exact Or.inl rfl | exact Or.inr rfl | assumption | exact bI_01 _) ?_
    rotate_left
    exact k0 1 (by omega) (by omega) (fun _ => rN_1 q) h' r f
  have good : nok B a = true → WP G (d + 2) mX7_readsNumber (pI K) 43 [some (.ref 89), some (.int (nI lo)), some (.int (nI hi)), none] [] h := by
    intro q
    obtain ⟨n1, n2, n3, n4⟩ := nv_lt q
    have q0 : fg B a = true := by unfold nok at q; rw [Bool.and_eq_true] at q; exact q.1
    obtain ⟨b, g1, g2, g3, g4, g5⟩ := fg_ex q0
    have e := b2 a b g1
    have fin : ∀ h1 z, F9 h h1 → h1 89 13 = nI a → h1 89 15 = nI (nv B a) → z = nz B a → WP G (d + 2) mX7_readsNumber (pI K) 116 [some (.ref 89), some (.int (nI lo)), some (.int (nI hi)), some (.int (nI z))] [] h1 := by
      intro h1 z F1 y1 y2 hz
      subst hz
      have hY1 : RY h1 B a := ⟨hY.1.f9 F1, y1⟩
      refine wp_aload_n (pc := 116) (i := 0) dX7_readsNumber_116 rfl rfl ?_
      refine wp_gfv (pc := 117) fk_X7_99 dX7_readsNumber_117 rfl rfl (by first | with_reducible assumption | with_reducible exact hs_same _ _ _ _ | rfl) ?_
      first | (with_reducible show WP _ _ _ _ _ _ (Value.int (nI _) :: _) _; refine wp_i2lN (pc := 120) dX7_readsNumber_120 (by omega) ?_) | refine wp_i2l (pc := 120) dX7_readsNumber_120 rfl ?_
      refine wp_iload_n (pc := 121) (i := 1) dX7_readsNumber_121 rfl rfl ?_
      first | (with_reducible show WP _ _ _ _ _ _ (Value.int (nI _) :: _) _; refine wp_i2lN (pc := 122) dX7_readsNumber_122 (by omega) ?_) | refine wp_i2l (pc := 122) dX7_readsNumber_122 rfl ?_
      refine wp_iload_n (pc := 123) (i := 2) dX7_readsNumber_123 rfl rfl ?_
      first | (with_reducible show WP _ _ _ _ _ _ (Value.int (nI _) :: _) _; refine wp_i2lN (pc := 124) dX7_readsNumber_124 (by omega) ?_) | refine wp_i2l (pc := 124) dX7_readsNumber_124 rfl ?_
      refine wp_cS3i (pc := 125) lk_X7_48 dX7_readsNumber_125 rfl (sp7_btwN (by omega) hlo hhi ?_)
      first | (with_reducible show WP _ _ _ _ _ _ (Value.int (bI _) :: _) _; refine wp_if_neB (pc := 128) (tgt := 137) dX7_readsNumber_128 (by decide) (fun c128 => ?_) (fun c128 => ?_)) | (with_reducible show WP _ _ _ _ _ _ (Value.int (nI _) :: _) _; refine wp_if_neN (pc := 128) (tgt := 137) dX7_readsNumber_128 (by decide) (by omega) (fun c128 => ?_) (fun c128 => ?_)) | refine wp_if_ne (pc := 128) (tgt := 137) dX7_readsNumber_128 (by decide) (fun c128 => ?_) (fun c128 => ?_)
      refine wp_aload_n (pc := 137) (i := 0) dX7_readsNumber_137 rfl rfl ?_
      refine wp_dup (pc := 138) dX7_readsNumber_138 rfl ?_
      refine wp_gfv (pc := 139) fk_X7_80 dX7_readsNumber_139 rfl rfl (by first | with_reducible assumption | with_reducible exact hs_same _ _ _ _ | rfl) ?_
      refine wp_iload_n (pc := 142) (i := 3) dX7_readsNumber_142 rfl rfl ?_
      first | (with_reducible show WP _ _ _ _ _ _ (Value.int (nI _) :: Value.int (nI _) :: _) _; refine wp_iaddN (pc := 143) dX7_readsNumber_143 ?_) | refine wp_iadd (pc := 143) dX7_readsNumber_143 ?_
      refine wp_pf (pc := 144) fp_X7_80 dX7_readsNumber_144 rfl rfl rfl rfl ?_
      refine wp_iconst (pc := 147) (v := nI 1) dX7_readsNumber_147 rfl ?_
      refine wp_zret (pc := 148) dX7_readsNumber_148 rfl (by first | exact Or.inl rfl | exact Or.inr rfl | assumption | exact bI_01 _) ?_
      rotate_left
      refine wp_aload_n (pc := 131) (i := 0) dX7_readsNumber_131 rfl rfl ?_
      refine wp_iconst (pc := 132) (v := nI 2) dX7_readsNumber_132 rfl ?_
      refine wp_cV1i (pc := 133) lk_X7_93 dX7_readsNumber_133 rfl rfl rfl (sp7_refuse hY1 (fun h' r f => ?_))
      refine wp_zret (pc := 136) dX7_readsNumber_136 rfl (by first | exact Or.inl rfl | exact Or.inr rfl | assumption | exact bI_01 _) ?_
      rotate_left
      · have c := of_decide_eq_true c128
        have f : F9 h1 (hs h1 89 13 (nI (a + nz B a))) := (F9.rf h1).hs (by omega)
        exact k1 c.1 c.2 (fun _ => rN_t q c) n2 _ (ry_at hY1) (by rw [hs_ix (by decide)]; exact y2) (F1.tr f)
      · exact k0 2 (by omega) (by omega) (fun _ => rN_2 q (of_decide_eq_false c128)) h' r (F1.tr f)
    have F1 : F9 h (hs h 89 15 (nI (b - 48))) := (F9.rf h).hs (by omega)
    have y1 : hs h 89 15 (nI (b - 48)) 89 13 = nI a := by rw [hs_ix (by decide)]; exact x1
    have y2 : hs h 89 15 (nI (b - 48)) 89 15 = nI (b - 48) := hs_same _ _ _ _
    have hY1 : RY (hs h 89 15 (nI (b - 48))) B a := ⟨hY.1.f9 F1, y1⟩
    refine wp_aload_n (pc := 43) (i := 0) dX7_readsNumber_43 rfl rfl ?_
    refine wp_aload_n (pc := 44) (i := 0) dX7_readsNumber_44 rfl rfl ?_
    refine wp_gfr (pc := 45) fk_X7_26 dX7_readsNumber_45 rfl rfl (by decide) ?_
    refine wp_aload_n (pc := 48) (i := 0) dX7_readsNumber_48 rfl rfl ?_
    refine wp_gfv (pc := 49) fk_X7_80 dX7_readsNumber_49 rfl rfl (by first | with_reducible assumption | with_reducible exact hs_same _ _ _ _ | rfl) ?_
    first | (with_reducible show WP _ _ _ _ _ _ (Value.int (nI _) :: _) _; refine wp_ialdN (pc := 52) dX7_readsNumber_52 rfl (by omega) (by first | with_reducible assumption | with_reducible exact hs_same _ _ _ _ | rfl) ?_) | refine wp_iald (pc := 52) dX7_readsNumber_52 rfl (by assumption) rfl ?_
    refine wp_bipush (pc := 53) (v := nI 48) dX7_readsNumber_53 rfl ?_
    first | (with_reducible show WP _ _ _ _ _ _ (Value.int (nI _) :: Value.int (nI _) :: _) _; refine wp_isubN (pc := 55) dX7_readsNumber_55 (by omega) ?_) | refine wp_isub (pc := 55) dX7_readsNumber_55 ?_
    refine wp_pf (pc := 56) fp_X7_99 dX7_readsNumber_56 rfl rfl rfl rfl ?_
    rotate_left
    generalize hs h 89 15 (nI (b - 48)) = h1 at *
    refine wp_aload_n (pc := 59) (i := 0) dX7_readsNumber_59 rfl rfl ?_
    refine wp_aload_n (pc := 60) (i := 0) dX7_readsNumber_60 rfl rfl ?_
    refine wp_gfv (pc := 61) fk_X7_80 dX7_readsNumber_61 rfl rfl (by first | with_reducible assumption | with_reducible exact hs_same _ _ _ _ | rfl) ?_
    refine wp_iconst (pc := 64) (v := nI 1) dX7_readsNumber_64 rfl ?_
    first | (with_reducible show WP _ _ _ _ _ _ (Value.int (nI _) :: Value.int (nI _) :: _) _; refine wp_iaddN (pc := 65) dX7_readsNumber_65 ?_) | refine wp_iadd (pc := 65) dX7_readsNumber_65 ?_
    refine wp_cV1i (pc := 66) lk_X7_96 dX7_readsNumber_66 rfl rfl rfl (sp7_isFigure hY1 hB (by omega) ?_)
    first | (with_reducible show WP _ _ _ _ _ _ (Value.int (bI _) :: _) _; refine wp_if_eqB (pc := 69) (tgt := 76) dX7_readsNumber_69 (by decide) (fun c69 => ?_) (fun c69 => ?_)) | (with_reducible show WP _ _ _ _ _ _ (Value.int (nI _) :: _) _; refine wp_if_eqN (pc := 69) (tgt := 76) dX7_readsNumber_69 (by decide) (by omega) (fun c69 => ?_) (fun c69 => ?_)) | refine wp_if_eq (pc := 69) (tgt := 76) dX7_readsNumber_69 (by decide) (fun c69 => ?_) (fun c69 => ?_)
    refine wp_iconst (pc := 76) (v := nI 1) dX7_readsNumber_76 rfl ?_
    rotate_left
    refine wp_iconst (pc := 72) (v := nI 2) dX7_readsNumber_72 rfl ?_
    refine wp_goto (pc := 73) (tgt := 77) dX7_readsNumber_73 (by decide) ?_
    rotate_left
    · refine wp_istore_n (pc := 77) (i := 3) dX7_readsNumber_77 rfl rfl (by decide) rfl ?_
      dsimp only [List.set_cons_zero, List.set_cons_succ]
      refine wp_aload_n (pc := 78) (i := 0) dX7_readsNumber_78 rfl rfl ?_
      refine wp_iload_n (pc := 79) (i := 3) dX7_readsNumber_79 rfl rfl ?_
      refine wp_iconst (pc := 80) (v := nI 2) dX7_readsNumber_80 rfl ?_
      first | (with_reducible show WP _ _ _ _ _ _ (Value.int (nI _) :: Value.int (nI _) :: _) _; refine wp_icmp_neN (pc := 81) (tgt := 109) dX7_readsNumber_81 (by decide) (by omega) (by omega) (fun c81 => ?_) (fun c81 => ?_)) | refine wp_icmp_ne (pc := 81) (tgt := 109) dX7_readsNumber_81 (by decide) (fun c81 => ?_) (fun c81 => ?_)
      refine wp_aload_n (pc := 109) (i := 0) dX7_readsNumber_109 rfl rfl ?_
      refine wp_gfv (pc := 110) fk_X7_99 dX7_readsNumber_110 rfl rfl (by first | with_reducible assumption | with_reducible exact hs_same _ _ _ _ | rfl) ?_
      rotate_left
      rotate_left
      · refine wp_pf (pc := 113) fp_X7_99 dX7_readsNumber_113 rfl rfl rfl rfl ?_
        refine fin _ 1 (F1.hs (by omega)) (by rw [hs_ix (by decide)]; exact y1) ?_ (by rw [nz, c69]; rfl)
        rw [hs_same, nv, c69, g4]; rfl
      · exact absurd c81 (by decide)
    · obtain ⟨b', f1, f2, f3, f4, f5⟩ := fg_ex c69
      have e' : h1 95 (a + 1) = nI b' := hY1.1.2 (a + 1) b' f1
      refine wp_istore_n (pc := 77) (i := 3) dX7_readsNumber_77 rfl rfl (by decide) rfl ?_
      dsimp only [List.set_cons_zero, List.set_cons_succ]
      refine wp_aload_n (pc := 78) (i := 0) dX7_readsNumber_78 rfl rfl ?_
      refine wp_iload_n (pc := 79) (i := 3) dX7_readsNumber_79 rfl rfl ?_
      refine wp_iconst (pc := 80) (v := nI 2) dX7_readsNumber_80 rfl ?_
      first | (with_reducible show WP _ _ _ _ _ _ (Value.int (nI _) :: Value.int (nI _) :: _) _; refine wp_icmp_neN (pc := 81) (tgt := 109) dX7_readsNumber_81 (by decide) (by omega) (by omega) (fun c81 => ?_) (fun c81 => ?_)) | refine wp_icmp_ne (pc := 81) (tgt := 109) dX7_readsNumber_81 (by decide) (fun c81 => ?_) (fun c81 => ?_)
      rotate_left
      refine wp_bipush (pc := 84) (v := nI 10) dX7_readsNumber_84 rfl ?_
      refine wp_aload_n (pc := 86) (i := 0) dX7_readsNumber_86 rfl rfl ?_
      refine wp_gfv (pc := 87) fk_X7_99 dX7_readsNumber_87 rfl rfl (by first | with_reducible assumption | with_reducible exact hs_same _ _ _ _ | rfl) ?_
      first | (with_reducible show WP _ _ _ _ _ _ (Value.int (nI _) :: Value.int (nI _) :: _) _; refine wp_imulN (pc := 90) dX7_readsNumber_90 ?_) | refine wp_imul (pc := 90) dX7_readsNumber_90 ?_
      refine wp_aload_n (pc := 91) (i := 0) dX7_readsNumber_91 rfl rfl ?_
      refine wp_gfr (pc := 92) fk_X7_26 dX7_readsNumber_92 rfl rfl (by decide) ?_
      refine wp_aload_n (pc := 95) (i := 0) dX7_readsNumber_95 rfl rfl ?_
      refine wp_gfv (pc := 96) fk_X7_80 dX7_readsNumber_96 rfl rfl (by first | with_reducible assumption | with_reducible exact hs_same _ _ _ _ | rfl) ?_
      refine wp_iconst (pc := 99) (v := nI 1) dX7_readsNumber_99 rfl ?_
      first | (with_reducible show WP _ _ _ _ _ _ (Value.int (nI _) :: Value.int (nI _) :: _) _; refine wp_iaddN (pc := 100) dX7_readsNumber_100 ?_) | refine wp_iadd (pc := 100) dX7_readsNumber_100 ?_
      first | (with_reducible show WP _ _ _ _ _ _ (Value.int (nI _) :: _) _; refine wp_ialdN (pc := 101) dX7_readsNumber_101 rfl (by omega) (by first | with_reducible assumption | with_reducible exact hs_same _ _ _ _ | rfl) ?_) | refine wp_iald (pc := 101) dX7_readsNumber_101 rfl (by assumption) rfl ?_
      first | (with_reducible show WP _ _ _ _ _ _ (Value.int (nI _) :: Value.int (nI _) :: _) _; refine wp_iaddN (pc := 102) dX7_readsNumber_102 ?_) | refine wp_iadd (pc := 102) dX7_readsNumber_102 ?_
      refine wp_bipush (pc := 103) (v := nI 48) dX7_readsNumber_103 rfl ?_
      first | (with_reducible show WP _ _ _ _ _ _ (Value.int (nI _) :: Value.int (nI _) :: _) _; refine wp_isubN (pc := 105) dX7_readsNumber_105 (by omega) ?_) | refine wp_isub (pc := 105) dX7_readsNumber_105 ?_
      refine wp_goto (pc := 106) (tgt := 113) dX7_readsNumber_106 (by decide) ?_
      rotate_left
      · exact absurd rfl c81
      · refine wp_pf (pc := 113) fp_X7_99 dX7_readsNumber_113 rfl rfl rfl rfl ?_
        refine fin _ 2 (F1.hs (by omega)) (by rw [hs_ix (by decide)]; exact y1) ?_ (by rw [nz, c69]; rfl)
        rw [hs_same, nv, c69, g4, f4]; rfl
  refine wp_aload_n (pc := 0) (i := 0) dX7_readsNumber_0 rfl rfl ?_
  refine wp_aload_n (pc := 1) (i := 0) dX7_readsNumber_1 rfl rfl ?_
  refine wp_gfv (pc := 2) fk_X7_80 dX7_readsNumber_2 rfl rfl (by first | with_reducible assumption | with_reducible exact hs_same _ _ _ _ | rfl) ?_
  refine wp_cV1i (pc := 5) lk_X7_96 dX7_readsNumber_5 rfl rfl rfl (sp7_isFigure hY hB (by omega) ?_)
  first | (with_reducible show WP _ _ _ _ _ _ (Value.int (bI _) :: _) _; refine wp_if_eqB (pc := 8) (tgt := 37) dX7_readsNumber_8 (by decide) (fun c8 => ?_) (fun c8 => ?_)) | (with_reducible show WP _ _ _ _ _ _ (Value.int (nI _) :: _) _; refine wp_if_eqN (pc := 8) (tgt := 37) dX7_readsNumber_8 (by decide) (by omega) (fun c8 => ?_) (fun c8 => ?_)) | refine wp_if_eq (pc := 8) (tgt := 37) dX7_readsNumber_8 (by decide) (fun c8 => ?_) (fun c8 => ?_)
  rotate_left
  refine wp_aload_n (pc := 11) (i := 0) dX7_readsNumber_11 rfl rfl ?_
  refine wp_aload_n (pc := 12) (i := 0) dX7_readsNumber_12 rfl rfl ?_
  refine wp_gfv (pc := 13) fk_X7_80 dX7_readsNumber_13 rfl rfl (by first | with_reducible assumption | with_reducible exact hs_same _ _ _ _ | rfl) ?_
  refine wp_iconst (pc := 16) (v := nI 1) dX7_readsNumber_16 rfl ?_
  first | (with_reducible show WP _ _ _ _ _ _ (Value.int (nI _) :: Value.int (nI _) :: _) _; refine wp_iaddN (pc := 17) dX7_readsNumber_17 ?_) | refine wp_iadd (pc := 17) dX7_readsNumber_17 ?_
  refine wp_cV1i (pc := 18) lk_X7_96 dX7_readsNumber_18 rfl rfl rfl (sp7_isFigure hY hB (by omega) ?_)
  first | (with_reducible show WP _ _ _ _ _ _ (Value.int (bI _) :: _) _; refine wp_if_eqB (pc := 21) (tgt := 43) dX7_readsNumber_21 (by decide) (fun c21 => ?_) (fun c21 => ?_)) | (with_reducible show WP _ _ _ _ _ _ (Value.int (nI _) :: _) _; refine wp_if_eqN (pc := 21) (tgt := 43) dX7_readsNumber_21 (by decide) (by omega) (fun c21 => ?_) (fun c21 => ?_)) | refine wp_if_eq (pc := 21) (tgt := 43) dX7_readsNumber_21 (by decide) (fun c21 => ?_) (fun c21 => ?_)
  rotate_left
  refine wp_aload_n (pc := 24) (i := 0) dX7_readsNumber_24 rfl rfl ?_
  refine wp_aload_n (pc := 25) (i := 0) dX7_readsNumber_25 rfl rfl ?_
  refine wp_gfv (pc := 26) fk_X7_80 dX7_readsNumber_26 rfl rfl (by first | with_reducible assumption | with_reducible exact hs_same _ _ _ _ | rfl) ?_
  refine wp_iconst (pc := 29) (v := nI 2) dX7_readsNumber_29 rfl ?_
  first | (with_reducible show WP _ _ _ _ _ _ (Value.int (nI _) :: Value.int (nI _) :: _) _; refine wp_iaddN (pc := 30) dX7_readsNumber_30 ?_) | refine wp_iadd (pc := 30) dX7_readsNumber_30 ?_
  refine wp_cV1i (pc := 31) lk_X7_96 dX7_readsNumber_31 rfl rfl rfl (sp7_isFigure hY hB (by omega) ?_)
  first | (with_reducible show WP _ _ _ _ _ _ (Value.int (bI _) :: _) _; refine wp_if_eqB (pc := 34) (tgt := 43) dX7_readsNumber_34 (by decide) (fun c34 => ?_) (fun c34 => ?_)) | (with_reducible show WP _ _ _ _ _ _ (Value.int (nI _) :: _) _; refine wp_if_eqN (pc := 34) (tgt := 43) dX7_readsNumber_34 (by decide) (by omega) (fun c34 => ?_) (fun c34 => ?_)) | refine wp_if_eq (pc := 34) (tgt := 43) dX7_readsNumber_34 (by decide) (fun c34 => ?_) (fun c34 => ?_)
  rotate_left
  rotate_left
  · exact bad (by rw [nok, c8]; rfl)
  · exact good (by rw [nok, c8, c21]; rfl)
  · exact good (by rw [nok, c8, c21, c34]; rfl)
  · exact bad (by rw [nok, c8, c21, c34]; rfl)
end RREAD
