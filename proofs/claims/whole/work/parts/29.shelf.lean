/-! rows -/
theorem nI_m1 {n : Nat} (h : n < 2 ^ 31) : ¬ nI n = kM1 := fun e => by
  have := congrArg Int32.toInt e
  rw [nI_toInt h] at this
  have e2 : kM1.toInt = -1 := by decide
  omega
def spn (z : Nat) (i n : Int32) : Bool := decide (0 ≤ i.toInt ∧ 0 ≤ n.toInt ∧ i.toInt + n.toInt ≤ z)
def fin1 (x : Option Rw) (i n : Int32) : Nat := match x with
  | none => 1
  | some y => if spn y.2.1 i n then 0 else 2
def fin2 (x y : Option Rw) (i j n : Int32) : Nat := match x, y with
  | some a, some b => if ¬ a.1 = b.1 then 5 else if spn a.2.1 i n && spn b.2.1 j n then 0 else 2
  | _, _ => 1
def nar (l : Nat) (v : Int32) : Int32 := if l = 0 then v.toInt8.toInt32 else if l = 1 then v.toInt16.toInt32 else v
theorem shp_row {r : Nat} (hr : r < 8) : shp[3 + r]? = some (1, 40, []) := by
  have : ∀ r, r < 8 → shp[3 + r]? = some (1, 40, []) := by decide +kernel
  exact this r hr
section SHELF
variable {G : Gt} {d : Nat} {h : Hp}
theorem le0_iff (x : Int32) : ¬ x < 0 ↔ 0 ≤ x.toInt := by rw [lt0_iff]; omega
theorem sp_holds {x : Int32} {K : Int32 → Hp → Prop} (k : K (bI (inN x 8)) h) : Call G (d + 1) mX4_holds [.int x] h (pI K) := by
  refine Call.of (M := mX4_holds) (n := 0) (by decide +kernel) rfl ?_
  show WP _ _ _ _ 0 [some (.int x)] [] _
  refine wp_iload_n (pc := 0) (i := 0) dX4_holds_0 rfl rfl ?_
  refine wp_iconst (pc := 1) (v := nI 0) dX4_holds_1 rfl ?_
  refine wp_bipush (pc := 2) (v := nI 7) dX4_holds_2 rfl ?_
  refine wp_cS3i (pc := 4) lk_X4_23 dX4_holds_4 rfl (sp_within ?_)
  refine wp_zret (pc := 7) dX4_holds_7 rfl (by first | exact Or.inl rfl | exact Or.inr rfl | assumption | exact bI_01 _) ?_
  rotate_left
  have e : inN x 8 = decide ((nI 0).toInt ≤ x.toInt ∧ x.toInt ≤ (nI 7).toInt) := by
    unfold inN
    rw [nI_toInt (by decide), nI_toInt (by decide)]
    apply decide_eq_decide.mpr
    omega
  rw [e] at k
  exact k
theorem sp_isMissing {r : Nat} {x : Option Rw} {K : Int32 → Hp → Prop} (hr : r < 8) (hx : dR h r x) (ho : ∀ y, x = some y → y.2.1 ≤ 40) (k : K (bI x.isNone) h) : Call G d mX4_isMissing [.ref 1, .int (nI r)] h (pI K) := by
  refine Call.of (M := mX4_isMissing) (n := 0) (by decide +kernel) rfl ?_
  show WP _ _ _ _ 0 [some (.ref 1), some (.int (nI r))] [] _
  cases x with
  | none =>
    have e : h 12 r = kM1 := hx
    refine wp_aload_n (pc := 0) (i := 0) dX4_isMissing_0 rfl rfl ?_
    refine wp_gfr (pc := 1) fk_X4_20 dX4_isMissing_1 rfl rfl (by decide) ?_
    refine wp_iload_n (pc := 4) (i := 1) dX4_isMissing_4 rfl rfl ?_
    first | (with_reducible show WP _ _ _ _ _ _ (Value.int (nI _) :: _) _; refine wp_ialdN (pc := 5) dX4_isMissing_5 rfl (by omega) (by first | with_reducible assumption | with_reducible exact hs_same _ _ _ _ | rfl) ?_) | refine wp_iald (pc := 5) dX4_isMissing_5 rfl (by assumption) rfl ?_
    refine wp_iconst (pc := 6) (v := kM1) dX4_isMissing_6 rfl ?_
    first | (with_reducible show WP _ _ _ _ _ _ (Value.int (nI _) :: Value.int (nI _) :: _) _; refine wp_icmp_neN (pc := 7) (tgt := 14) dX4_isMissing_7 (by decide) (by omega) (by omega) (fun c7 => ?_) (fun c7 => ?_)) | refine wp_icmp_ne (pc := 7) (tgt := 14) dX4_isMissing_7 (by decide) (fun c7 => ?_) (fun c7 => ?_)
    refine wp_iconst (pc := 14) (v := nI 0) dX4_isMissing_14 rfl ?_
    refine wp_zret (pc := 15) dX4_isMissing_15 rfl (by first | exact Or.inl rfl | exact Or.inr rfl | assumption | exact bI_01 _) ?_
    rotate_left
    refine wp_iconst (pc := 10) (v := nI 1) dX4_isMissing_10 rfl ?_
    refine wp_goto (pc := 11) (tgt := 15) dX4_isMissing_11 (by decide) ?_
    refine wp_zret (pc := 15) dX4_isMissing_15 rfl (by first | exact Or.inl rfl | exact Or.inr rfl | assumption | exact bI_01 _) ?_
    rotate_left
    · exact absurd rfl c7
    · exact k
  | some y =>
    have e : h 12 r = nI y.2.1 := hx.1
    have := ho y rfl
    refine wp_aload_n (pc := 0) (i := 0) dX4_isMissing_0 rfl rfl ?_
    refine wp_gfr (pc := 1) fk_X4_20 dX4_isMissing_1 rfl rfl (by decide) ?_
    refine wp_iload_n (pc := 4) (i := 1) dX4_isMissing_4 rfl rfl ?_
    first | (with_reducible show WP _ _ _ _ _ _ (Value.int (nI _) :: _) _; refine wp_ialdN (pc := 5) dX4_isMissing_5 rfl (by omega) (by first | with_reducible assumption | with_reducible exact hs_same _ _ _ _ | rfl) ?_) | refine wp_iald (pc := 5) dX4_isMissing_5 rfl (by assumption) rfl ?_
    refine wp_iconst (pc := 6) (v := kM1) dX4_isMissing_6 rfl ?_
    first | (with_reducible show WP _ _ _ _ _ _ (Value.int (nI _) :: Value.int (nI _) :: _) _; refine wp_icmp_neN (pc := 7) (tgt := 14) dX4_isMissing_7 (by decide) (by omega) (by omega) (fun c7 => ?_) (fun c7 => ?_)) | refine wp_icmp_ne (pc := 7) (tgt := 14) dX4_isMissing_7 (by decide) (fun c7 => ?_) (fun c7 => ?_)
    refine wp_iconst (pc := 14) (v := nI 0) dX4_isMissing_14 rfl ?_
    refine wp_zret (pc := 15) dX4_isMissing_15 rfl (by first | exact Or.inl rfl | exact Or.inr rfl | assumption | exact bI_01 _) ?_
    rotate_left
    refine wp_iconst (pc := 10) (v := nI 1) dX4_isMissing_10 rfl ?_
    refine wp_goto (pc := 11) (tgt := 15) dX4_isMissing_11 (by decide) ?_
    refine wp_zret (pc := 15) dX4_isMissing_15 rfl (by first | exact Or.inl rfl | exact Or.inr rfl | assumption | exact bI_01 _) ?_
    rotate_left
    · exact k
    · exact absurd c7 (nI_m1 (by omega))
theorem sp_isSpan {r z : Nat} {i n : Int32} {K : Int32 → Hp → Prop} (hr : r < 8) (hx : h 12 r = nI z) (hz : z ≤ 40) (k : K (bI (spn z i n)) h) : Call G d mX4_isSpan [.ref 1, .int (nI r), .int i, .int n] h (pI K) := by
  have hb : (nI z).toInt = (z : Int) := nI_toInt (by omega)
  refine Call.of (M := mX4_isSpan) (n := 0) (by decide +kernel) rfl ?_
  show WP _ _ _ _ 0 [some (.ref 1), some (.int (nI r)), some (.int i), some (.int n)] [] _
  refine wp_iload_n (pc := 0) (i := 2) dX4_isSpan_0 rfl rfl ?_
  refine wp_if_lt (pc := 1) (tgt := 34) dX4_isSpan_1 (by decide) (fun c1 => ?_) (fun c1 => ?_)
  · refine wp_iconst (pc := 34) (v := nI 0) dX4_isSpan_34 rfl ?_
    refine wp_zret (pc := 35) dX4_isSpan_35 rfl (by first | exact Or.inl rfl | exact Or.inr rfl | assumption | exact bI_01 _) ?_
    rotate_left
    rw [spn, decide_eq_false (fun q => by have := (lt0_iff i).mp c1; omega)] at k
    exact k
  have d1 := (le0_iff i).mp c1
  refine wp_iload_n (pc := 4) (i := 3) dX4_isSpan_4 rfl rfl ?_
  refine wp_if_lt (pc := 5) (tgt := 34) dX4_isSpan_5 (by decide) (fun c5 => ?_) (fun c5 => ?_)
  · refine wp_iconst (pc := 34) (v := nI 0) dX4_isSpan_34 rfl ?_
    refine wp_zret (pc := 35) dX4_isSpan_35 rfl (by first | exact Or.inl rfl | exact Or.inr rfl | assumption | exact bI_01 _) ?_
    rotate_left
    rw [spn, decide_eq_false (fun q => by have := (lt0_iff n).mp c5; omega)] at k
    exact k
  have d2 := (le0_iff n).mp c5
  refine wp_iload_n (pc := 8) (i := 2) dX4_isSpan_8 rfl rfl ?_
  refine wp_aload_n (pc := 9) (i := 0) dX4_isSpan_9 rfl rfl ?_
  refine wp_gfr (pc := 10) fk_X4_20 dX4_isSpan_10 rfl rfl (by decide) ?_
  refine wp_iload_n (pc := 13) (i := 1) dX4_isSpan_13 rfl rfl ?_
  first | (with_reducible show WP _ _ _ _ _ _ (Value.int (nI _) :: _) _; refine wp_ialdN (pc := 14) dX4_isSpan_14 rfl (by omega) (by first | with_reducible assumption | with_reducible exact hs_same _ _ _ _ | rfl) ?_) | refine wp_iald (pc := 14) dX4_isSpan_14 rfl (by assumption) rfl ?_
  rotate_left
  refine wp_icmp_gt (pc := 15) (tgt := 34) dX4_isSpan_15 (by decide) (fun c15 => ?_) (fun c15 => ?_)
  · refine wp_iconst (pc := 34) (v := nI 0) dX4_isSpan_34 rfl ?_
    refine wp_zret (pc := 35) dX4_isSpan_35 rfl (by first | exact Or.inl rfl | exact Or.inr rfl | assumption | exact bI_01 _) ?_
    rotate_left
    rw [spn, decide_eq_false (fun q => by have := Int32.lt_iff_toInt_lt.mp c15; omega)] at k
    exact k
  have d3 : i.toInt ≤ z := by have := Int.not_lt.mp (fun q => c15 (Int32.lt_iff_toInt_lt.mpr q)); omega
  obtain ⟨i', hlt, rfl⟩ := nI_of c1
  have hi : (nI i').toInt = (i' : Int) := by
    exact nI_toInt hlt
  refine wp_iload_n (pc := 18) (i := 3) dX4_isSpan_18 rfl rfl ?_
  refine wp_aload_n (pc := 19) (i := 0) dX4_isSpan_19 rfl rfl ?_
  refine wp_gfr (pc := 20) fk_X4_20 dX4_isSpan_20 rfl rfl (by decide) ?_
  refine wp_iload_n (pc := 23) (i := 1) dX4_isSpan_23 rfl rfl ?_
  first | (with_reducible show WP _ _ _ _ _ _ (Value.int (nI _) :: _) _; refine wp_ialdN (pc := 24) dX4_isSpan_24 rfl (by omega) (by first | with_reducible assumption | with_reducible exact hs_same _ _ _ _ | rfl) ?_) | refine wp_iald (pc := 24) dX4_isSpan_24 rfl (by assumption) rfl ?_
  refine wp_iload_n (pc := 25) (i := 2) dX4_isSpan_25 rfl rfl ?_
  first | (with_reducible show WP _ _ _ _ _ _ (Value.int (nI _) :: Value.int (nI _) :: _) _; refine wp_isubN (pc := 26) dX4_isSpan_26 (by omega) ?_) | refine wp_isub (pc := 26) dX4_isSpan_26 ?_
  rotate_left
  have hsb : (nI (z - i')).toInt = ((z - i' : Nat) : Int) := nI_toInt (by omega)
  refine wp_icmp_gt (pc := 27) (tgt := 34) dX4_isSpan_27 (by decide) (fun c27 => ?_) (fun c27 => ?_)
  · refine wp_iconst (pc := 34) (v := nI 0) dX4_isSpan_34 rfl ?_
    refine wp_zret (pc := 35) dX4_isSpan_35 rfl (by first | exact Or.inl rfl | exact Or.inr rfl | assumption | exact bI_01 _) ?_
    rotate_left
    rw [spn, decide_eq_false (fun q => by have := Int32.lt_iff_toInt_lt.mp c27; omega)] at k
    exact k
  refine wp_iconst (pc := 30) (v := nI 1) dX4_isSpan_30 rfl ?_
  refine wp_goto (pc := 31) (tgt := 35) dX4_isSpan_31 (by decide) ?_
  refine wp_zret (pc := 35) dX4_isSpan_35 rfl (by first | exact Or.inl rfl | exact Or.inr rfl | assumption | exact bI_01 _) ?_
  rotate_left
  rw [spn, decide_eq_true (by have := Int.not_lt.mp (fun q => c27 (Int32.lt_iff_toInt_lt.mpr q)); omega)] at k
  exact k
theorem sp_findingOf {r : Nat} {x : Option Rw} {i n : Int32} {K : Int32 → Hp → Prop} (hr : r < 8) (hx : dR h r x) (ho : ∀ y, x = some y → y.2.1 ≤ 40) (k : K (nI (fin1 x i n)) h) : Call G (d + 1) mX4_findingOf [.ref 1, .int (nI r), .int i, .int n] h (pI K) := by
  refine Call.of (M := mX4_findingOf) (n := 0) (by decide +kernel) rfl ?_
  show WP _ _ _ _ 0 [some (.ref 1), some (.int (nI r)), some (.int i), some (.int n)] [] _
  cases x with
  | none =>
    refine wp_aload_n (pc := 0) (i := 0) dX4_findingOf_0 rfl rfl ?_
    refine wp_iload_n (pc := 1) (i := 1) dX4_findingOf_1 rfl rfl ?_
    refine wp_cV1i (pc := 2) lk_X4_27 dX4_findingOf_2 rfl rfl rfl (sp_isMissing hr hx ho ?_)
    first | (with_reducible show WP _ _ _ _ _ _ (Value.int (bI _) :: _) _; refine wp_if_eqB (pc := 5) (tgt := 10) dX4_findingOf_5 (by decide) (fun c5 => ?_) (fun c5 => ?_)) | (with_reducible show WP _ _ _ _ _ _ (Value.int (nI _) :: _) _; refine wp_if_eqN (pc := 5) (tgt := 10) dX4_findingOf_5 (by decide) (by omega) (fun c5 => ?_) (fun c5 => ?_)) | refine wp_if_eq (pc := 5) (tgt := 10) dX4_findingOf_5 (by decide) (fun c5 => ?_) (fun c5 => ?_)
    rotate_left
    refine wp_iconst (pc := 8) (v := nI 1) dX4_findingOf_8 rfl ?_
    refine wp_iret (pc := 9) dX4_findingOf_9 rfl ?_
    rotate_left
    · cases c5
    · exact k
  | some y =>
    refine wp_aload_n (pc := 0) (i := 0) dX4_findingOf_0 rfl rfl ?_
    refine wp_iload_n (pc := 1) (i := 1) dX4_findingOf_1 rfl rfl ?_
    refine wp_cV1i (pc := 2) lk_X4_27 dX4_findingOf_2 rfl rfl rfl (sp_isMissing hr hx ho ?_)
    first | (with_reducible show WP _ _ _ _ _ _ (Value.int (bI _) :: _) _; refine wp_if_eqB (pc := 5) (tgt := 10) dX4_findingOf_5 (by decide) (fun c5 => ?_) (fun c5 => ?_)) | (with_reducible show WP _ _ _ _ _ _ (Value.int (nI _) :: _) _; refine wp_if_eqN (pc := 5) (tgt := 10) dX4_findingOf_5 (by decide) (by omega) (fun c5 => ?_) (fun c5 => ?_)) | refine wp_if_eq (pc := 5) (tgt := 10) dX4_findingOf_5 (by decide) (fun c5 => ?_) (fun c5 => ?_)
    refine wp_aload_n (pc := 10) (i := 0) dX4_findingOf_10 rfl rfl ?_
    refine wp_iload_n (pc := 11) (i := 1) dX4_findingOf_11 rfl rfl ?_
    refine wp_iload_n (pc := 12) (i := 2) dX4_findingOf_12 rfl rfl ?_
    refine wp_iload_n (pc := 13) (i := 3) dX4_findingOf_13 rfl rfl ?_
    refine wp_cV3i (pc := 14) lk_X4_31 dX4_findingOf_14 rfl rfl rfl (sp_isSpan hr hx.1 (ho y rfl) ?_)
    first | (with_reducible show WP _ _ _ _ _ _ (Value.int (bI _) :: _) _; refine wp_if_eqB (pc := 17) (tgt := 24) dX4_findingOf_17 (by decide) (fun c17 => ?_) (fun c17 => ?_)) | (with_reducible show WP _ _ _ _ _ _ (Value.int (nI _) :: _) _; refine wp_if_eqN (pc := 17) (tgt := 24) dX4_findingOf_17 (by decide) (by omega) (fun c17 => ?_) (fun c17 => ?_)) | refine wp_if_eq (pc := 17) (tgt := 24) dX4_findingOf_17 (by decide) (fun c17 => ?_) (fun c17 => ?_)
    refine wp_iconst (pc := 24) (v := nI 2) dX4_findingOf_24 rfl ?_
    refine wp_iret (pc := 25) dX4_findingOf_25 rfl ?_
    rotate_left
    refine wp_iconst (pc := 20) (v := nI 0) dX4_findingOf_20 rfl ?_
    refine wp_goto (pc := 21) (tgt := 25) dX4_findingOf_21 (by decide) ?_
    refine wp_iret (pc := 25) dX4_findingOf_25 rfl ?_
    rotate_left
    rotate_left
    · rw [fin1, c17] at k; exact k
    · rw [fin1, c17] at k; exact k
    · cases c5
theorem sp_findingOfMove {a b : Nat} {x y : Option Rw} {i j n : Int32} {K : Int32 → Hp → Prop} (ha : a < 8) (hb : b < 8) (hx : dR h a x) (hy : dR h b y) (ho : ∀ z, x = some z → z.1 < 3 ∧ z.2.1 ≤ 40) (ho2 : ∀ z, y = some z → z.1 < 3 ∧ z.2.1 ≤ 40) (k : K (nI (fin2 x y i j n)) h) : Call G (d + 1) mX4_findingOfMove [.ref 1, .int (nI a), .int i, .int (nI b), .int j, .int n] h (pI K) := by
  refine Call.of (M := mX4_findingOfMove) (n := 0) (by decide +kernel) rfl ?_
  show WP _ _ _ _ 0 [some (.ref 1), some (.int (nI a)), some (.int i), some (.int (nI b)), some (.int j), some (.int n)] [] _
  cases x with
  | none =>
    refine wp_aload_n (pc := 0) (i := 0) dX4_findingOfMove_0 rfl rfl ?_
    refine wp_iload_n (pc := 1) (i := 1) dX4_findingOfMove_1 rfl rfl ?_
    refine wp_cV1i (pc := 2) lk_X4_27 dX4_findingOfMove_2 rfl rfl rfl (sp_isMissing ha hx (fun z hz => (ho z hz).2) ?_)
    first | (with_reducible show WP _ _ _ _ _ _ (Value.int (bI _) :: _) _; refine wp_if_neB (pc := 5) (tgt := 16) dX4_findingOfMove_5 (by decide) (fun c5 => ?_) (fun c5 => ?_)) | (with_reducible show WP _ _ _ _ _ _ (Value.int (nI _) :: _) _; refine wp_if_neN (pc := 5) (tgt := 16) dX4_findingOfMove_5 (by decide) (by omega) (fun c5 => ?_) (fun c5 => ?_)) | refine wp_if_ne (pc := 5) (tgt := 16) dX4_findingOfMove_5 (by decide) (fun c5 => ?_) (fun c5 => ?_)
    refine wp_iconst (pc := 16) (v := nI 1) dX4_findingOfMove_16 rfl ?_
    refine wp_iret (pc := 17) dX4_findingOfMove_17 rfl ?_
    rotate_left
    rotate_left
    · exact k
    · cases c5
  | some x =>
    cases y with
    | none =>
      refine wp_aload_n (pc := 0) (i := 0) dX4_findingOfMove_0 rfl rfl ?_
      refine wp_iload_n (pc := 1) (i := 1) dX4_findingOfMove_1 rfl rfl ?_
      refine wp_cV1i (pc := 2) lk_X4_27 dX4_findingOfMove_2 rfl rfl rfl (sp_isMissing ha hx (fun z hz => (ho z hz).2) ?_)
      first | (with_reducible show WP _ _ _ _ _ _ (Value.int (bI _) :: _) _; refine wp_if_neB (pc := 5) (tgt := 16) dX4_findingOfMove_5 (by decide) (fun c5 => ?_) (fun c5 => ?_)) | (with_reducible show WP _ _ _ _ _ _ (Value.int (nI _) :: _) _; refine wp_if_neN (pc := 5) (tgt := 16) dX4_findingOfMove_5 (by decide) (by omega) (fun c5 => ?_) (fun c5 => ?_)) | refine wp_if_ne (pc := 5) (tgt := 16) dX4_findingOfMove_5 (by decide) (fun c5 => ?_) (fun c5 => ?_)
      refine wp_iconst (pc := 16) (v := nI 1) dX4_findingOfMove_16 rfl ?_
      refine wp_iret (pc := 17) dX4_findingOfMove_17 rfl ?_
      rotate_left
      refine wp_aload_n (pc := 8) (i := 0) dX4_findingOfMove_8 rfl rfl ?_
      refine wp_iload_n (pc := 9) (i := 3) dX4_findingOfMove_9 rfl rfl ?_
      refine wp_cV1i (pc := 10) lk_X4_27 dX4_findingOfMove_10 rfl rfl rfl (sp_isMissing hb hy (fun z hz => (ho2 z hz).2) ?_)
      first | (with_reducible show WP _ _ _ _ _ _ (Value.int (bI _) :: _) _; refine wp_if_eqB (pc := 13) (tgt := 18) dX4_findingOfMove_13 (by decide) (fun c13 => ?_) (fun c13 => ?_)) | (with_reducible show WP _ _ _ _ _ _ (Value.int (nI _) :: _) _; refine wp_if_eqN (pc := 13) (tgt := 18) dX4_findingOfMove_13 (by decide) (by omega) (fun c13 => ?_) (fun c13 => ?_)) | refine wp_if_eq (pc := 13) (tgt := 18) dX4_findingOfMove_13 (by decide) (fun c13 => ?_) (fun c13 => ?_)
      rotate_left
      refine wp_iconst (pc := 16) (v := nI 1) dX4_findingOfMove_16 rfl ?_
      refine wp_iret (pc := 17) dX4_findingOfMove_17 rfl ?_
      rotate_left
      · cases c5
      · cases c13
      · exact k
    | some y =>
      have q1 := ho x rfl
      have q2 := ho2 y rfl
      have r1 : h 11 a = nI x.1 := hx.2.1
      have r2 : h 11 b = nI y.1 := hy.2.1
      refine wp_aload_n (pc := 0) (i := 0) dX4_findingOfMove_0 rfl rfl ?_
      refine wp_iload_n (pc := 1) (i := 1) dX4_findingOfMove_1 rfl rfl ?_
      refine wp_cV1i (pc := 2) lk_X4_27 dX4_findingOfMove_2 rfl rfl rfl (sp_isMissing ha hx (fun z hz => (ho z hz).2) ?_)
      first | (with_reducible show WP _ _ _ _ _ _ (Value.int (bI _) :: _) _; refine wp_if_neB (pc := 5) (tgt := 16) dX4_findingOfMove_5 (by decide) (fun c5 => ?_) (fun c5 => ?_)) | (with_reducible show WP _ _ _ _ _ _ (Value.int (nI _) :: _) _; refine wp_if_neN (pc := 5) (tgt := 16) dX4_findingOfMove_5 (by decide) (by omega) (fun c5 => ?_) (fun c5 => ?_)) | refine wp_if_ne (pc := 5) (tgt := 16) dX4_findingOfMove_5 (by decide) (fun c5 => ?_) (fun c5 => ?_)
      refine wp_iconst (pc := 16) (v := nI 1) dX4_findingOfMove_16 rfl ?_
      refine wp_iret (pc := 17) dX4_findingOfMove_17 rfl ?_
      rotate_left
      refine wp_aload_n (pc := 8) (i := 0) dX4_findingOfMove_8 rfl rfl ?_
      refine wp_iload_n (pc := 9) (i := 3) dX4_findingOfMove_9 rfl rfl ?_
      refine wp_cV1i (pc := 10) lk_X4_27 dX4_findingOfMove_10 rfl rfl rfl (sp_isMissing hb hy (fun z hz => (ho2 z hz).2) ?_)
      first | (with_reducible show WP _ _ _ _ _ _ (Value.int (bI _) :: _) _; refine wp_if_eqB (pc := 13) (tgt := 18) dX4_findingOfMove_13 (by decide) (fun c13 => ?_) (fun c13 => ?_)) | (with_reducible show WP _ _ _ _ _ _ (Value.int (nI _) :: _) _; refine wp_if_eqN (pc := 13) (tgt := 18) dX4_findingOfMove_13 (by decide) (by omega) (fun c13 => ?_) (fun c13 => ?_)) | refine wp_if_eq (pc := 13) (tgt := 18) dX4_findingOfMove_13 (by decide) (fun c13 => ?_) (fun c13 => ?_)
      refine wp_aload_n (pc := 18) (i := 0) dX4_findingOfMove_18 rfl rfl ?_
      refine wp_gfr (pc := 19) fk_X4_16 dX4_findingOfMove_19 rfl rfl (by decide) ?_
      refine wp_iload_n (pc := 22) (i := 1) dX4_findingOfMove_22 rfl rfl ?_
      first | (with_reducible show WP _ _ _ _ _ _ (Value.int (nI _) :: _) _; refine wp_ialdN (pc := 23) dX4_findingOfMove_23 rfl (by omega) (by first | with_reducible assumption | with_reducible exact hs_same _ _ _ _ | rfl) ?_) | refine wp_iald (pc := 23) dX4_findingOfMove_23 rfl (by assumption) rfl ?_
      refine wp_aload_n (pc := 24) (i := 0) dX4_findingOfMove_24 rfl rfl ?_
      refine wp_gfr (pc := 25) fk_X4_16 dX4_findingOfMove_25 rfl rfl (by decide) ?_
      refine wp_iload_n (pc := 28) (i := 3) dX4_findingOfMove_28 rfl rfl ?_
      first | (with_reducible show WP _ _ _ _ _ _ (Value.int (nI _) :: _) _; refine wp_ialdN (pc := 29) dX4_findingOfMove_29 rfl (by omega) (by first | with_reducible assumption | with_reducible exact hs_same _ _ _ _ | rfl) ?_) | refine wp_iald (pc := 29) dX4_findingOfMove_29 rfl (by assumption) rfl ?_
      first | (with_reducible show WP _ _ _ _ _ _ (Value.int (nI _) :: Value.int (nI _) :: _) _; refine wp_icmp_eqN (pc := 30) (tgt := 35) dX4_findingOfMove_30 (by decide) (by omega) (by omega) (fun c30 => ?_) (fun c30 => ?_)) | refine wp_icmp_eq (pc := 30) (tgt := 35) dX4_findingOfMove_30 (by decide) (fun c30 => ?_) (fun c30 => ?_)
      refine wp_aload_n (pc := 35) (i := 0) dX4_findingOfMove_35 rfl rfl ?_
      refine wp_iload_n (pc := 36) (i := 1) dX4_findingOfMove_36 rfl rfl ?_
      refine wp_iload_n (pc := 37) (i := 2) dX4_findingOfMove_37 rfl rfl ?_
      refine wp_iload (pc := 38) (i := 5) dX4_findingOfMove_38 rfl ?_
      refine wp_cV3i (pc := 40) lk_X4_31 dX4_findingOfMove_40 rfl rfl rfl (sp_isSpan ha hx.1 q1.2 ?_)
      first | (with_reducible show WP _ _ _ _ _ _ (Value.int (bI _) :: _) _; refine wp_if_eqB (pc := 43) (tgt := 62) dX4_findingOfMove_43 (by decide) (fun c43 => ?_) (fun c43 => ?_)) | (with_reducible show WP _ _ _ _ _ _ (Value.int (nI _) :: _) _; refine wp_if_eqN (pc := 43) (tgt := 62) dX4_findingOfMove_43 (by decide) (by omega) (fun c43 => ?_) (fun c43 => ?_)) | refine wp_if_eq (pc := 43) (tgt := 62) dX4_findingOfMove_43 (by decide) (fun c43 => ?_) (fun c43 => ?_)
      refine wp_iconst (pc := 62) (v := nI 2) dX4_findingOfMove_62 rfl ?_
      refine wp_iret (pc := 63) dX4_findingOfMove_63 rfl ?_
      rotate_left
      refine wp_aload_n (pc := 46) (i := 0) dX4_findingOfMove_46 rfl rfl ?_
      refine wp_iload_n (pc := 47) (i := 3) dX4_findingOfMove_47 rfl rfl ?_
      refine wp_iload (pc := 48) (i := 4) dX4_findingOfMove_48 rfl ?_
      refine wp_iload (pc := 50) (i := 5) dX4_findingOfMove_50 rfl ?_
      refine wp_cV3i (pc := 52) lk_X4_31 dX4_findingOfMove_52 rfl rfl rfl (sp_isSpan hb hy.1 q2.2 ?_)
      first | (with_reducible show WP _ _ _ _ _ _ (Value.int (bI _) :: _) _; refine wp_if_eqB (pc := 55) (tgt := 62) dX4_findingOfMove_55 (by decide) (fun c55 => ?_) (fun c55 => ?_)) | (with_reducible show WP _ _ _ _ _ _ (Value.int (nI _) :: _) _; refine wp_if_eqN (pc := 55) (tgt := 62) dX4_findingOfMove_55 (by decide) (by omega) (fun c55 => ?_) (fun c55 => ?_)) | refine wp_if_eq (pc := 55) (tgt := 62) dX4_findingOfMove_55 (by decide) (fun c55 => ?_) (fun c55 => ?_)
      refine wp_iconst (pc := 62) (v := nI 2) dX4_findingOfMove_62 rfl ?_
      refine wp_iret (pc := 63) dX4_findingOfMove_63 rfl ?_
      rotate_left
      refine wp_iconst (pc := 58) (v := nI 0) dX4_findingOfMove_58 rfl ?_
      refine wp_goto (pc := 59) (tgt := 63) dX4_findingOfMove_59 (by decide) ?_
      refine wp_iret (pc := 63) dX4_findingOfMove_63 rfl ?_
      rotate_left
      refine wp_iconst (pc := 33) (v := nI 5) dX4_findingOfMove_33 rfl ?_
      refine wp_iret (pc := 34) dX4_findingOfMove_34 rfl ?_
      rotate_left
      refine wp_iconst (pc := 16) (v := nI 1) dX4_findingOfMove_16 rfl ?_
      refine wp_iret (pc := 17) dX4_findingOfMove_17 rfl ?_
      rotate_left
      · cases c5
      · rw [fin2, if_neg (by omega), c43] at k; exact k
      · rw [fin2, if_neg (by omega), c43, c55] at k; exact k
      · rw [fin2, if_neg (by omega), c43, c55] at k; exact k
      · rw [fin2, if_pos c30] at k; exact k
      · cases c13
theorem sp_lay {r l n : Nat} {K : Hp → Prop} (hr : r < 8) (hn : n ≤ 40) (k : ∀ h', h' 12 = upd (h 12) r (nI n) → h' 11 = upd (h 11) r (nI l) → (∀ i, i < n → h' (3 + r) i = nI 0) → (∀ a, a ≠ 11 → a ≠ 12 → a ≠ 3 + r → h' a = h a) → K h') : Call G d mX4_lay [.ref 1, .int (nI r), .int (nI l), .int (nI n)] h (pV K) := by
  have hsr := shp_row hr
  have loop : ∀ m i h1, i + m = n → h1 12 = upd (h 12) r (nI n) → h1 11 = upd (h 11) r (nI l) → (∀ j, j < i → h1 (3 + r) j = nI 0) → (∀ a, a ≠ 11 → a ≠ 12 → a ≠ 3 + r → h1 a = h a) → WP G d mX4_lay (pV K) 17 [some (.ref 1), some (.int (nI r)), some (.int (nI l)), some (.int (nI n)), some (.int (nI i))] [] h1 := by
    intro m
    induction m with
    | zero =>
      intro i h1 him q1 q2 q3 q4
      refine wp_iload (pc := 17) (i := 4) dX4_lay_17 rfl ?_
      refine wp_iload_n (pc := 19) (i := 3) dX4_lay_19 rfl rfl ?_
      first | (with_reducible show WP _ _ _ _ _ _ (Value.int (nI _) :: Value.int (nI _) :: _) _; refine wp_icmp_geN (pc := 20) (tgt := 39) dX4_lay_20 (by decide) (by omega) (by omega) (fun c20 => ?_) (fun c20 => ?_)) | refine wp_icmp_ge (pc := 20) (tgt := 39) dX4_lay_20 (by decide) (fun c20 => ?_) (fun c20 => ?_)
      refine wp_vret (pc := 39) dX4_lay_39 rfl ?_
      rotate_left
      rotate_left
      · exact k h1 q1 q2 (fun j hj => q3 j (by omega)) q4
      · exact absurd him (by omega)
    | succ m ih =>
      intro i h1 him q1 q2 q3 q4
      refine wp_iload (pc := 17) (i := 4) dX4_lay_17 rfl ?_
      refine wp_iload_n (pc := 19) (i := 3) dX4_lay_19 rfl rfl ?_
      first | (with_reducible show WP _ _ _ _ _ _ (Value.int (nI _) :: Value.int (nI _) :: _) _; refine wp_icmp_geN (pc := 20) (tgt := 39) dX4_lay_20 (by decide) (by omega) (by omega) (fun c20 => ?_) (fun c20 => ?_)) | refine wp_icmp_ge (pc := 20) (tgt := 39) dX4_lay_20 (by decide) (fun c20 => ?_) (fun c20 => ?_)
      rotate_left
      refine wp_aload_n (pc := 23) (i := 0) dX4_lay_23 rfl rfl ?_
      refine wp_gfr (pc := 24) fk_X4_11 dX4_lay_24 rfl rfl (by decide) ?_
      refine wp_iload_n (pc := 27) (i := 1) dX4_lay_27 rfl rfl ?_
      refine wp_aaldN (pc := 28) dX4_lay_28 rfl (by omega) (by decide) ?_
      refine wp_iload (pc := 29) (i := 4) dX4_lay_29 rfl ?_
      refine wp_iconst (pc := 31) (v := nI 0) dX4_lay_31 rfl ?_
      first | (with_reducible show WP _ _ _ _ _ _ (_ :: Value.int (nI _) :: _) _; refine wp_iastN (pc := 32) dX4_lay_32 hsr (by omega) ?_) | refine wp_iast (pc := 32) dX4_lay_32 hsr (by assumption) rfl ?_
      first | refine wp_iincN (pc := 33) (i := 4) (n := 1) dX4_lay_33 rfl rfl (by decide) rfl ?_ | refine wp_iinc (pc := 33) (i := 4) dX4_lay_33 rfl rfl rfl (by decide) rfl ?_
      dsimp only [List.set_cons_zero, List.set_cons_succ]
      refine wp_goto (pc := 36) (tgt := 17) dX4_lay_36 (by decide) ?_
      rotate_left
      · exact absurd him (by omega)
      · refine ih (i + 1) _ (by omega) ?_ ?_ (fun j hj => ?_) (fun a a1 a2 a3 => ?_)
        · rw [hs_ne (by omega)]; exact q1
        · rw [hs_ne (by omega)]; exact q2
        · by_cases z : j = i
          · subst z; rw [hs_same]
          · rw [hs_ix z]; exact q3 j (by omega)
        · rw [hs_ne a3]; exact q4 a a1 a2 a3
  refine Call.of (M := mX4_lay) (n := 1) (by decide +kernel) rfl ?_
  show WP _ _ _ _ 0 [some (.ref 1), some (.int (nI r)), some (.int (nI l)), some (.int (nI n)), none] [] _
  refine wp_aload_n (pc := 0) (i := 0) dX4_lay_0 rfl rfl ?_
  refine wp_gfr (pc := 1) fk_X4_16 dX4_lay_1 rfl rfl (by decide) ?_
  refine wp_iload_n (pc := 4) (i := 1) dX4_lay_4 rfl rfl ?_
  refine wp_iload_n (pc := 5) (i := 2) dX4_lay_5 rfl rfl ?_
  first | (with_reducible show WP _ _ _ _ _ _ (_ :: Value.int (nI _) :: _) _; refine wp_iastN (pc := 6) dX4_lay_6 rfl (by omega) ?_) | refine wp_iast (pc := 6) dX4_lay_6 rfl (by assumption) rfl ?_
  refine wp_aload_n (pc := 7) (i := 0) dX4_lay_7 rfl rfl ?_
  refine wp_gfr (pc := 8) fk_X4_20 dX4_lay_8 rfl rfl (by decide) ?_
  refine wp_iload_n (pc := 11) (i := 1) dX4_lay_11 rfl rfl ?_
  refine wp_iload_n (pc := 12) (i := 3) dX4_lay_12 rfl rfl ?_
  first | (with_reducible show WP _ _ _ _ _ _ (_ :: Value.int (nI _) :: _) _; refine wp_iastN (pc := 13) dX4_lay_13 rfl (by omega) ?_) | refine wp_iast (pc := 13) dX4_lay_13 rfl (by assumption) rfl ?_
  refine wp_iconst (pc := 14) (v := nI 0) dX4_lay_14 rfl ?_
  refine wp_istore (pc := 15) (i := 4) dX4_lay_15 rfl (by decide) rfl ?_
  dsimp only [List.set_cons_zero, List.set_cons_succ]
  rotate_left
  refine loop n 0 _ (by omega) ?_ ?_ (fun j hj => absurd hj (by omega)) (fun a a1 a2 a3 => ?_)
  · rw [hs_at, hs_ne (by decide)]
  · rw [hs_ne (by decide), hs_at]
  · rw [hs_ne a2, hs_ne a1]
theorem sp_takeAway {r n : Nat} {K : Int32 → Hp → Prop} (hr : r < 8) (hx : h 12 r = nI n) (k : K (nI n) (hs h 12 r kM1)) : Call G d mX4_takeAway [.ref 1, .int (nI r)] h (pI K) := by
  refine Call.of (M := mX4_takeAway) (n := 1) (by decide +kernel) rfl ?_
  show WP _ _ _ _ 0 [some (.ref 1), some (.int (nI r)), none] [] _
  refine wp_aload_n (pc := 0) (i := 0) dX4_takeAway_0 rfl rfl ?_
  refine wp_gfr (pc := 1) fk_X4_20 dX4_takeAway_1 rfl rfl (by decide) ?_
  refine wp_iload_n (pc := 4) (i := 1) dX4_takeAway_4 rfl rfl ?_
  first | (with_reducible show WP _ _ _ _ _ _ (Value.int (nI _) :: _) _; refine wp_ialdN (pc := 5) dX4_takeAway_5 rfl (by omega) (by first | with_reducible assumption | with_reducible exact hs_same _ _ _ _ | rfl) ?_) | refine wp_iald (pc := 5) dX4_takeAway_5 rfl (by assumption) rfl ?_
  refine wp_istore_n (pc := 6) (i := 2) dX4_takeAway_6 rfl rfl (by decide) rfl ?_
  dsimp only [List.set_cons_zero, List.set_cons_succ]
  refine wp_aload_n (pc := 7) (i := 0) dX4_takeAway_7 rfl rfl ?_
  refine wp_gfr (pc := 8) fk_X4_20 dX4_takeAway_8 rfl rfl (by decide) ?_
  refine wp_iload_n (pc := 11) (i := 1) dX4_takeAway_11 rfl rfl ?_
  refine wp_iconst (pc := 12) (v := kM1) dX4_takeAway_12 rfl ?_
  first | (with_reducible show WP _ _ _ _ _ _ (_ :: Value.int (nI _) :: _) _; refine wp_iastN (pc := 13) dX4_takeAway_13 rfl (by omega) ?_) | refine wp_iast (pc := 13) dX4_takeAway_13 rfl (by assumption) rfl ?_
  refine wp_iload_n (pc := 14) (i := 2) dX4_takeAway_14 rfl rfl ?_
  refine wp_iret (pc := 15) dX4_takeAway_15 rfl ?_
  rotate_left
  exact k
theorem sp_put {r i l : Nat} {v : Int32} {K : Int32 → Hp → Prop} (hr : r < 8) (hi : i < 40) (hl : h 11 r = nI l) (hl3 : l < 3) (k : K (nar l v) (hs h (3 + r) i (nar l v))) : Call G d mX4_put [.ref 1, .int (nI r), .int (nI i), .int v] h (pI K) := by
  have hsr := shp_row hr
  refine Call.of (M := mX4_put) (n := 0) (by decide +kernel) rfl ?_
  show WP _ _ _ _ 0 [some (.ref 1), some (.int (nI r)), some (.int (nI i)), some (.int v)] [] _
  refine wp_aload_n (pc := 0) (i := 0) dX4_put_0 rfl rfl ?_
  refine wp_gfr (pc := 1) fk_X4_16 dX4_put_1 rfl rfl (by decide) ?_
  refine wp_iload_n (pc := 4) (i := 1) dX4_put_4 rfl rfl ?_
  first | (with_reducible show WP _ _ _ _ _ _ (Value.int (nI _) :: _) _; refine wp_ialdN (pc := 5) dX4_put_5 rfl (by omega) (by first | with_reducible assumption | with_reducible exact hs_same _ _ _ _ | rfl) ?_) | refine wp_iald (pc := 5) dX4_put_5 rfl (by assumption) rfl ?_
  first | (with_reducible show WP _ _ _ _ _ _ (Value.int (bI _) :: _) _; refine wp_if_neB (pc := 6) (tgt := 22) dX4_put_6 (by decide) (fun c6 => ?_) (fun c6 => ?_)) | (with_reducible show WP _ _ _ _ _ _ (Value.int (nI _) :: _) _; refine wp_if_neN (pc := 6) (tgt := 22) dX4_put_6 (by decide) (by omega) (fun c6 => ?_) (fun c6 => ?_)) | refine wp_if_ne (pc := 6) (tgt := 22) dX4_put_6 (by decide) (fun c6 => ?_) (fun c6 => ?_)
  refine wp_aload_n (pc := 22) (i := 0) dX4_put_22 rfl rfl ?_
  refine wp_gfr (pc := 23) fk_X4_11 dX4_put_23 rfl rfl (by decide) ?_
  refine wp_iload_n (pc := 26) (i := 1) dX4_put_26 rfl rfl ?_
  refine wp_aaldN (pc := 27) dX4_put_27 rfl (by omega) (by decide) ?_
  refine wp_iload_n (pc := 28) (i := 2) dX4_put_28 rfl rfl ?_
  refine wp_aload_n (pc := 29) (i := 0) dX4_put_29 rfl rfl ?_
  refine wp_gfr (pc := 30) fk_X4_16 dX4_put_30 rfl rfl (by decide) ?_
  refine wp_iload_n (pc := 33) (i := 1) dX4_put_33 rfl rfl ?_
  first | (with_reducible show WP _ _ _ _ _ _ (Value.int (nI _) :: _) _; refine wp_ialdN (pc := 34) dX4_put_34 rfl (by omega) (by first | with_reducible assumption | with_reducible exact hs_same _ _ _ _ | rfl) ?_) | refine wp_iald (pc := 34) dX4_put_34 rfl (by assumption) rfl ?_
  refine wp_iconst (pc := 35) (v := nI 1) dX4_put_35 rfl ?_
  first | (with_reducible show WP _ _ _ _ _ _ (Value.int (nI _) :: Value.int (nI _) :: _) _; refine wp_icmp_neN (pc := 36) (tgt := 44) dX4_put_36 (by decide) (by omega) (by omega) (fun c36 => ?_) (fun c36 => ?_)) | refine wp_icmp_ne (pc := 36) (tgt := 44) dX4_put_36 (by decide) (fun c36 => ?_) (fun c36 => ?_)
  refine wp_iload_n (pc := 44) (i := 3) dX4_put_44 rfl rfl ?_
  first | (with_reducible show WP _ _ _ _ _ _ (_ :: Value.int (nI _) :: _) _; refine wp_iastN (pc := 45) dX4_put_45 hsr (by omega) ?_) | refine wp_iast (pc := 45) dX4_put_45 hsr (by assumption) rfl ?_
  refine wp_aload_n (pc := 46) (i := 0) dX4_put_46 rfl rfl ?_
  refine wp_gfr (pc := 47) fk_X4_11 dX4_put_47 rfl rfl (by decide) ?_
  refine wp_iload_n (pc := 50) (i := 1) dX4_put_50 rfl rfl ?_
  refine wp_aaldN (pc := 51) dX4_put_51 rfl (by omega) (by decide) ?_
  refine wp_iload_n (pc := 52) (i := 2) dX4_put_52 rfl rfl ?_
  first | (with_reducible show WP _ _ _ _ _ _ (Value.int (nI _) :: _) _; refine wp_ialdN (pc := 53) dX4_put_53 hsr (by omega) (by first | with_reducible assumption | with_reducible exact hs_same _ _ _ _ | rfl) ?_) | refine wp_iald (pc := 53) dX4_put_53 hsr (by assumption) rfl ?_
  refine wp_iret (pc := 54) dX4_put_54 rfl ?_
  rotate_left
  refine wp_iload_n (pc := 39) (i := 3) dX4_put_39 rfl rfl ?_
  refine wp_i2s (pc := 40) dX4_put_40 rfl ?_
  refine wp_goto (pc := 41) (tgt := 45) dX4_put_41 (by decide) ?_
  first | (with_reducible show WP _ _ _ _ _ _ (_ :: Value.int (nI _) :: _) _; refine wp_iastN (pc := 45) dX4_put_45 hsr (by omega) ?_) | refine wp_iast (pc := 45) dX4_put_45 hsr (by assumption) rfl ?_
  refine wp_aload_n (pc := 46) (i := 0) dX4_put_46 rfl rfl ?_
  refine wp_gfr (pc := 47) fk_X4_11 dX4_put_47 rfl rfl (by decide) ?_
  refine wp_iload_n (pc := 50) (i := 1) dX4_put_50 rfl rfl ?_
  refine wp_aaldN (pc := 51) dX4_put_51 rfl (by omega) (by decide) ?_
  refine wp_iload_n (pc := 52) (i := 2) dX4_put_52 rfl rfl ?_
  first | (with_reducible show WP _ _ _ _ _ _ (Value.int (nI _) :: _) _; refine wp_ialdN (pc := 53) dX4_put_53 hsr (by omega) (by first | with_reducible assumption | with_reducible exact hs_same _ _ _ _ | rfl) ?_) | refine wp_iald (pc := 53) dX4_put_53 hsr (by assumption) rfl ?_
  refine wp_iret (pc := 54) dX4_put_54 rfl ?_
  rotate_left
  refine wp_aload_n (pc := 9) (i := 0) dX4_put_9 rfl rfl ?_
  refine wp_gfr (pc := 10) fk_X4_11 dX4_put_10 rfl rfl (by decide) ?_
  refine wp_iload_n (pc := 13) (i := 1) dX4_put_13 rfl rfl ?_
  refine wp_aaldN (pc := 14) dX4_put_14 rfl (by omega) (by decide) ?_
  refine wp_iload_n (pc := 15) (i := 2) dX4_put_15 rfl rfl ?_
  refine wp_iload_n (pc := 16) (i := 3) dX4_put_16 rfl rfl ?_
  refine wp_i2b (pc := 17) dX4_put_17 rfl ?_
  first | (with_reducible show WP _ _ _ _ _ _ (_ :: Value.int (nI _) :: _) _; refine wp_iastN (pc := 18) dX4_put_18 hsr (by omega) ?_) | refine wp_iast (pc := 18) dX4_put_18 hsr (by assumption) rfl ?_
  refine wp_goto (pc := 19) (tgt := 46) dX4_put_19 (by decide) ?_
  refine wp_aload_n (pc := 46) (i := 0) dX4_put_46 rfl rfl ?_
  refine wp_gfr (pc := 47) fk_X4_11 dX4_put_47 rfl rfl (by decide) ?_
  refine wp_iload_n (pc := 50) (i := 1) dX4_put_50 rfl rfl ?_
  refine wp_aaldN (pc := 51) dX4_put_51 rfl (by omega) (by decide) ?_
  refine wp_iload_n (pc := 52) (i := 2) dX4_put_52 rfl rfl ?_
  first | (with_reducible show WP _ _ _ _ _ _ (Value.int (nI _) :: _) _; refine wp_ialdN (pc := 53) dX4_put_53 hsr (by omega) (by first | with_reducible assumption | with_reducible exact hs_same _ _ _ _ | rfl) ?_) | refine wp_iald (pc := 53) dX4_put_53 hsr (by assumption) rfl ?_
  refine wp_iret (pc := 54) dX4_put_54 rfl ?_
  rotate_left
  · rw [nar, if_neg (by omega), if_neg (by omega)] at k; exact k
  · rw [nar, if_neg (by omega), if_pos (by omega)] at k; exact k
  · rw [nar, if_pos (by omega)] at k; exact k
theorem sp_itemAt {r i : Nat} {K : Int32 → Hp → Prop} (hr : r < 8) (hi : i < 40) (k : K (h (3 + r) i) h) : Call G d mX4_itemAt [.ref 1, .int (nI r), .int (nI i)] h (pI K) := by
  have hsr := shp_row hr
  refine Call.of (M := mX4_itemAt) (n := 0) (by decide +kernel) rfl ?_
  show WP _ _ _ _ 0 [some (.ref 1), some (.int (nI r)), some (.int (nI i))] [] _
  refine wp_aload_n (pc := 0) (i := 0) dX4_itemAt_0 rfl rfl ?_
  refine wp_gfr (pc := 1) fk_X4_11 dX4_itemAt_1 rfl rfl (by decide) ?_
  refine wp_iload_n (pc := 4) (i := 1) dX4_itemAt_4 rfl rfl ?_
  refine wp_aaldN (pc := 5) dX4_itemAt_5 rfl (by omega) (by decide) ?_
  refine wp_iload_n (pc := 6) (i := 2) dX4_itemAt_6 rfl rfl ?_
  first | (with_reducible show WP _ _ _ _ _ _ (Value.int (nI _) :: _) _; refine wp_ialdN (pc := 7) dX4_itemAt_7 hsr (by omega) (by first | with_reducible assumption | with_reducible exact hs_same _ _ _ _ | rfl) ?_) | refine wp_iald (pc := 7) dX4_itemAt_7 hsr (by assumption) rfl ?_
  refine wp_iret (pc := 8) dX4_itemAt_8 rfl ?_
  rotate_left
  exact k
theorem sp_rowsThere {R : Nat → Option Rw} {K : Int32 → Hp → Prop} (hR : DR h R) (ho : ∀ r y, R r = some y → y.2.1 ≤ 40) (k : K (nI (smU (fun r => if (R r).isNone then 0 else 1) 8)) h) : Call G (d + 1) mX4_rowsThere [.ref 1] h (pI K) := by
  have loop : ∀ m i, i + m = 8 → WP G (d + 1) mX4_rowsThere (pI K) 4 [some (.ref 1), some (.int (nI (smU (fun r => if (R r).isNone then 0 else 1) i))), some (.int (nI i))] [] h := by
    intro m
    induction m with
    | zero =>
      intro i him
      refine wp_iload_n (pc := 4) (i := 2) dX4_rowsThere_4 rfl rfl ?_
      refine wp_bipush (pc := 5) (v := nI 8) dX4_rowsThere_5 rfl ?_
      first | (with_reducible show WP _ _ _ _ _ _ (Value.int (nI _) :: Value.int (nI _) :: _) _; refine wp_icmp_geN (pc := 7) (tgt := 32) dX4_rowsThere_7 (by decide) (by omega) (by omega) (fun c7 => ?_) (fun c7 => ?_)) | refine wp_icmp_ge (pc := 7) (tgt := 32) dX4_rowsThere_7 (by decide) (fun c7 => ?_) (fun c7 => ?_)
      refine wp_iload_n (pc := 32) (i := 1) dX4_rowsThere_32 rfl rfl ?_
      refine wp_iret (pc := 33) dX4_rowsThere_33 rfl ?_
      rotate_left
      rotate_left
      · rw [show i = 8 by omega]; exact k
      · exact absurd him (by omega)
    | succ m ih =>
      intro i him
      have hh := ih (i + 1) (by omega)
      rw [smU] at hh
      refine wp_iload_n (pc := 4) (i := 2) dX4_rowsThere_4 rfl rfl ?_
      refine wp_bipush (pc := 5) (v := nI 8) dX4_rowsThere_5 rfl ?_
      first | (with_reducible show WP _ _ _ _ _ _ (Value.int (nI _) :: Value.int (nI _) :: _) _; refine wp_icmp_geN (pc := 7) (tgt := 32) dX4_rowsThere_7 (by decide) (by omega) (by omega) (fun c7 => ?_) (fun c7 => ?_)) | refine wp_icmp_ge (pc := 7) (tgt := 32) dX4_rowsThere_7 (by decide) (fun c7 => ?_) (fun c7 => ?_)
      rotate_left
      refine wp_iload_n (pc := 10) (i := 1) dX4_rowsThere_10 rfl rfl ?_
      refine wp_aload_n (pc := 11) (i := 0) dX4_rowsThere_11 rfl rfl ?_
      refine wp_iload_n (pc := 12) (i := 2) dX4_rowsThere_12 rfl rfl ?_
      refine wp_cV1i (pc := 13) lk_X4_27 dX4_rowsThere_13 rfl rfl rfl (sp_isMissing (by omega) (hR i (by omega)) (ho i) ?_)
      first | (with_reducible show WP _ _ _ _ _ _ (Value.int (bI _) :: _) _; refine wp_if_eqB (pc := 16) (tgt := 23) dX4_rowsThere_16 (by decide) (fun c16 => ?_) (fun c16 => ?_)) | (with_reducible show WP _ _ _ _ _ _ (Value.int (nI _) :: _) _; refine wp_if_eqN (pc := 16) (tgt := 23) dX4_rowsThere_16 (by decide) (by omega) (fun c16 => ?_) (fun c16 => ?_)) | refine wp_if_eq (pc := 16) (tgt := 23) dX4_rowsThere_16 (by decide) (fun c16 => ?_) (fun c16 => ?_)
      refine wp_iconst (pc := 23) (v := nI 1) dX4_rowsThere_23 rfl ?_
      first | (with_reducible show WP _ _ _ _ _ _ (Value.int (nI _) :: Value.int (nI _) :: _) _; refine wp_iaddN (pc := 24) dX4_rowsThere_24 ?_) | refine wp_iadd (pc := 24) dX4_rowsThere_24 ?_
      refine wp_istore_n (pc := 25) (i := 1) dX4_rowsThere_25 rfl rfl (by decide) rfl ?_
      dsimp only [List.set_cons_zero, List.set_cons_succ]
      first | refine wp_iincN (pc := 26) (i := 2) (n := 1) dX4_rowsThere_26 rfl rfl (by decide) rfl ?_ | refine wp_iinc (pc := 26) (i := 2) dX4_rowsThere_26 rfl rfl rfl (by decide) rfl ?_
      dsimp only [List.set_cons_zero, List.set_cons_succ]
      refine wp_goto (pc := 29) (tgt := 4) dX4_rowsThere_29 (by decide) ?_
      rotate_left
      refine wp_iconst (pc := 19) (v := nI 0) dX4_rowsThere_19 rfl ?_
      refine wp_goto (pc := 20) (tgt := 24) dX4_rowsThere_20 (by decide) ?_
      first | (with_reducible show WP _ _ _ _ _ _ (Value.int (nI _) :: Value.int (nI _) :: _) _; refine wp_iaddN (pc := 24) dX4_rowsThere_24 ?_) | refine wp_iadd (pc := 24) dX4_rowsThere_24 ?_
      refine wp_istore_n (pc := 25) (i := 1) dX4_rowsThere_25 rfl rfl (by decide) rfl ?_
      dsimp only [List.set_cons_zero, List.set_cons_succ]
      first | refine wp_iincN (pc := 26) (i := 2) (n := 1) dX4_rowsThere_26 rfl rfl (by decide) rfl ?_ | refine wp_iinc (pc := 26) (i := 2) dX4_rowsThere_26 rfl rfl rfl (by decide) rfl ?_
      dsimp only [List.set_cons_zero, List.set_cons_succ]
      refine wp_goto (pc := 29) (tgt := 4) dX4_rowsThere_29 (by decide) ?_
      rotate_left
      · exact absurd c7 (by omega)
      · rw [c16] at hh; exact hh
      · rw [c16] at hh; exact hh
  refine Call.of (M := mX4_rowsThere) (n := 2) (by decide +kernel) rfl ?_
  show WP _ _ _ _ 0 [some (.ref 1), none, none] [] _
  refine wp_iconst (pc := 0) (v := nI 0) dX4_rowsThere_0 rfl ?_
  refine wp_istore_n (pc := 1) (i := 1) dX4_rowsThere_1 rfl rfl (by decide) rfl ?_
  dsimp only [List.set_cons_zero, List.set_cons_succ]
  refine wp_iconst (pc := 2) (v := nI 0) dX4_rowsThere_2 rfl ?_
  refine wp_istore_n (pc := 3) (i := 2) dX4_rowsThere_3 rfl rfl (by decide) rfl ?_
  dsimp only [List.set_cons_zero, List.set_cons_succ]
  rotate_left
  exact loop 8 0 (by omega)
end SHELF
