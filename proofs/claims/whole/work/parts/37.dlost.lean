/-! how many bits; how many are lost; how even the fed are -/
def us (x : Int32) (n : Nat) : Int32 := (x.toUInt32 >>> ((nI n).toUInt32 &&& Int32.toUInt32 31)).toInt32
def bc1 (x : Int32) : Int32 := x - (us x 1 &&& nI 1431655765)
def bc2 (x : Int32) : Int32 := (x &&& nI 858993459) + (us x 2 &&& nI 858993459)
def bc3 (x : Int32) : Int32 := (x + us x 4) &&& nI 252645135
def bc (x : Int32) : Int32 := (((bc3 (bc2 (bc1 x)) + us (bc3 (bc2 (bc1 x))) 8) + us (bc3 (bc2 (bc1 x)) + us (bc3 (bc2 (bc1 x))) 8) 16) &&& nI 63)
def pop (b : Nat) : Nat := smU (fun j => if b.testBit j then 1 else 0) 6
theorem bc_pop {b : Nat} (hb : b < 64) : bc (nI b) = nI (pop b) := by
  have : ∀ b, b < 64 → bc (nI b) = nI (pop b) := by decide +kernel
  exact this b hb
theorem smU_cut {f g : Nat → Nat} {n m : Nat} (hn : n ≤ m) (h1 : ∀ j, j < n → f j = g j) (h2 : ∀ j, n ≤ j → f j = 0) : smU f m = smU g n := by
  have a : ∀ j, j ≤ n → smU f j = smU g j := by
    intro j
    induction j with
    | zero => intro _; rfl
    | succ j ih => intro hj; show smU f j + f j = smU g j + g j; rw [ih (by omega), h1 j (by omega)]
  have b : ∀ j, smU f (n + j) = smU f n := by
    intro j
    induction j with
    | zero => rfl
    | succ j ih => show smU f (n + j) + f (n + j) = _; rw [ih, h2 _ (by omega)]; rfl
  have := b (m - n)
  rw [show n + (m - n) = m by omega] at this
  rw [this, a n (Nat.le_refl n)]
def ls (T : Tn) (n g : Nat) : Bool := (wt T n g).isSome && !br T n g
def lsn (T : Tn) (n : Nat) : Nat := smU (fun g => if ls T n g then 1 else 0) (T 1)
theorem pop_lt {T : Tn} (h1 : T 1 ≤ 6) (n : Nat) : pop (lt_ T n (T 1)) = lsn T n := smU_cut h1 (fun j hj => by
  show (if (lt_ T n (T 1)).testBit j then 1 else 0) = if ls T n j then 1 else 0
  rw [lt_bit, decide_eq_true hj]; rfl) (fun j hj => by
  show (if (lt_ T n (T 1)).testBit j then 1 else 0) = 0
  rw [lt_bit, decide_eq_false (by omega)]; rfl)
theorem lsn_le (T : Tn) (n : Nat) : lsn T n ≤ T 1 * 1 := smU_le _ (fun i _ => by show (if ls T n i then 1 else 0) ≤ 1; split <;> omega)
def fLost (T : Tn) (n : Int32) : Int32 := if T 1 = 0 then kSTATE else if btw n 1 60 then nI (smU (fun i => lsn T i) n.toNatClampNeg) else kBAD
def mxU (f : Nat → Nat) : Nat → Nat
  | 0 => 0
  | n + 1 => max (mxU f n) (f n)
def mnU (f : Nat → Nat) : Nat → Nat
  | 0 => 99
  | n + 1 => min (mnU f n) (f n)
theorem mxn (f : Nat → Nat) (b : ∀ i, f i ≤ 99) : ∀ n, mxU f (n + 1) ≤ 99 ∧ mnU f (n + 1) ≤ mxU f (n + 1)
  | 0 => ⟨by have := b 0; show max 0 (f 0) ≤ 99; omega, by show min 99 (f 0) ≤ max 0 (f 0); omega⟩
  | n + 1 => by
    obtain ⟨p, q⟩ := mxn f b n
    have := b (n + 1)
    refine ⟨?_, ?_⟩
    · show max (mxU f (n + 1)) (f (n + 1)) ≤ 99; omega
    · show min (mnU f (n + 1)) (f (n + 1)) ≤ max (mxU f (n + 1)) (f (n + 1)); omega
theorem mxmn (f : Nat → Nat) : ∀ n, mnU f n ≤ 99
  | 0 => Nat.le_refl _
  | n + 1 => by have := mxmn f n; show min (mnU f n) (f n) ≤ 99; omega
def fdU (U : Tn) (c : Nat) : Nat := min 99 (U (5 + c))
def fEven (T : Tn) (n : Int32) : Int32 := if T 1 = 0 then kSTATE else if btw n 0 60 then nI (mxU (fdU (itP T n.toNatClampNeg)) (T 0) - mnU (fdU (itP T n.toNatClampNeg)) (T 0)) else kBAD
section DLOST
variable {G : Gt} {d : Nat} {h : Hp} {σ : Sg} {T : Tn}
theorem sp_bitCount {x : Int32} {K : Int32 → Hp → Prop} (k : K (bc x) h) : Call G d mJ6_bitCount_0f7a4 [.int x] h (pI K) := by
  refine Call.of (M := mJ6_bitCount_0f7a4) (n := 0) (by decide +kernel) rfl ?_
  show WP _ _ _ _ 0 [some (.int x)] [] _
  refine wp_iload_n (pc := 0) (i := 0) dJ6_bitCount_0f7a4_0 rfl rfl ?_
  refine wp_iload_n (pc := 1) (i := 0) dJ6_bitCount_0f7a4_1 rfl rfl ?_
  refine wp_iconst (pc := 2) (v := nI 1) dJ6_bitCount_0f7a4_2 rfl ?_
  refine wp_iushr (pc := 3) dJ6_bitCount_0f7a4_3 rfl ?_
  refine wp_ldcw (pc := 4) kn_J6_265 dJ6_bitCount_0f7a4_4 ?_
  first | (with_reducible show WP _ _ _ _ _ _ (Value.int (nI _) :: Value.int (nI _) :: _) _; refine wp_iandN (pc := 7) dJ6_bitCount_0f7a4_7 ?_) | refine wp_iand (pc := 7) dJ6_bitCount_0f7a4_7 ?_
  first | (with_reducible show WP _ _ _ _ _ _ (Value.int (nI _) :: Value.int (nI _) :: _) _; refine wp_isubN (pc := 8) dJ6_bitCount_0f7a4_8 (by omega) ?_) | refine wp_isub (pc := 8) dJ6_bitCount_0f7a4_8 ?_
  refine wp_istore_n (pc := 9) (i := 0) dJ6_bitCount_0f7a4_9 rfl rfl (by decide) rfl ?_
  dsimp only [List.set_cons_zero, List.set_cons_succ]
  refine wp_iload_n (pc := 10) (i := 0) dJ6_bitCount_0f7a4_10 rfl rfl ?_
  refine wp_ldcw (pc := 11) kn_J6_266 dJ6_bitCount_0f7a4_11 ?_
  first | (with_reducible show WP _ _ _ _ _ _ (Value.int (nI _) :: Value.int (nI _) :: _) _; refine wp_iandN (pc := 14) dJ6_bitCount_0f7a4_14 ?_) | refine wp_iand (pc := 14) dJ6_bitCount_0f7a4_14 ?_
  refine wp_iload_n (pc := 15) (i := 0) dJ6_bitCount_0f7a4_15 rfl rfl ?_
  refine wp_iconst (pc := 16) (v := nI 2) dJ6_bitCount_0f7a4_16 rfl ?_
  refine wp_iushr (pc := 17) dJ6_bitCount_0f7a4_17 rfl ?_
  refine wp_ldcw (pc := 18) kn_J6_266 dJ6_bitCount_0f7a4_18 ?_
  first | (with_reducible show WP _ _ _ _ _ _ (Value.int (nI _) :: Value.int (nI _) :: _) _; refine wp_iandN (pc := 21) dJ6_bitCount_0f7a4_21 ?_) | refine wp_iand (pc := 21) dJ6_bitCount_0f7a4_21 ?_
  first | (with_reducible show WP _ _ _ _ _ _ (Value.int (nI _) :: Value.int (nI _) :: _) _; refine wp_iaddN (pc := 22) dJ6_bitCount_0f7a4_22 ?_) | refine wp_iadd (pc := 22) dJ6_bitCount_0f7a4_22 ?_
  refine wp_istore_n (pc := 23) (i := 0) dJ6_bitCount_0f7a4_23 rfl rfl (by decide) rfl ?_
  dsimp only [List.set_cons_zero, List.set_cons_succ]
  refine wp_iload_n (pc := 24) (i := 0) dJ6_bitCount_0f7a4_24 rfl rfl ?_
  refine wp_iload_n (pc := 25) (i := 0) dJ6_bitCount_0f7a4_25 rfl rfl ?_
  refine wp_iconst (pc := 26) (v := nI 4) dJ6_bitCount_0f7a4_26 rfl ?_
  refine wp_iushr (pc := 27) dJ6_bitCount_0f7a4_27 rfl ?_
  first | (with_reducible show WP _ _ _ _ _ _ (Value.int (nI _) :: Value.int (nI _) :: _) _; refine wp_iaddN (pc := 28) dJ6_bitCount_0f7a4_28 ?_) | refine wp_iadd (pc := 28) dJ6_bitCount_0f7a4_28 ?_
  refine wp_ldcw (pc := 29) kn_J6_267 dJ6_bitCount_0f7a4_29 ?_
  first | (with_reducible show WP _ _ _ _ _ _ (Value.int (nI _) :: Value.int (nI _) :: _) _; refine wp_iandN (pc := 32) dJ6_bitCount_0f7a4_32 ?_) | refine wp_iand (pc := 32) dJ6_bitCount_0f7a4_32 ?_
  refine wp_istore_n (pc := 33) (i := 0) dJ6_bitCount_0f7a4_33 rfl rfl (by decide) rfl ?_
  dsimp only [List.set_cons_zero, List.set_cons_succ]
  refine wp_iload_n (pc := 34) (i := 0) dJ6_bitCount_0f7a4_34 rfl rfl ?_
  refine wp_iload_n (pc := 35) (i := 0) dJ6_bitCount_0f7a4_35 rfl rfl ?_
  refine wp_bipush (pc := 36) (v := nI 8) dJ6_bitCount_0f7a4_36 rfl ?_
  refine wp_iushr (pc := 38) dJ6_bitCount_0f7a4_38 rfl ?_
  first | (with_reducible show WP _ _ _ _ _ _ (Value.int (nI _) :: Value.int (nI _) :: _) _; refine wp_iaddN (pc := 39) dJ6_bitCount_0f7a4_39 ?_) | refine wp_iadd (pc := 39) dJ6_bitCount_0f7a4_39 ?_
  refine wp_istore_n (pc := 40) (i := 0) dJ6_bitCount_0f7a4_40 rfl rfl (by decide) rfl ?_
  dsimp only [List.set_cons_zero, List.set_cons_succ]
  refine wp_iload_n (pc := 41) (i := 0) dJ6_bitCount_0f7a4_41 rfl rfl ?_
  refine wp_iload_n (pc := 42) (i := 0) dJ6_bitCount_0f7a4_42 rfl rfl ?_
  refine wp_bipush (pc := 43) (v := nI 16) dJ6_bitCount_0f7a4_43 rfl ?_
  refine wp_iushr (pc := 45) dJ6_bitCount_0f7a4_45 rfl ?_
  first | (with_reducible show WP _ _ _ _ _ _ (Value.int (nI _) :: Value.int (nI _) :: _) _; refine wp_iaddN (pc := 46) dJ6_bitCount_0f7a4_46 ?_) | refine wp_iadd (pc := 46) dJ6_bitCount_0f7a4_46 ?_
  refine wp_istore_n (pc := 47) (i := 0) dJ6_bitCount_0f7a4_47 rfl rfl (by decide) rfl ?_
  dsimp only [List.set_cons_zero, List.set_cons_succ]
  refine wp_iload_n (pc := 48) (i := 0) dJ6_bitCount_0f7a4_48 rfl rfl ?_
  refine wp_bipush (pc := 49) (v := nI 63) dJ6_bitCount_0f7a4_49 rfl ?_
  first | (with_reducible show WP _ _ _ _ _ _ (Value.int (nI _) :: Value.int (nI _) :: _) _; refine wp_iandN (pc := 51) dJ6_bitCount_0f7a4_51 ?_) | refine wp_iand (pc := 51) dJ6_bitCount_0f7a4_51 ?_
  refine wp_iret (pc := 52) dJ6_bitCount_0f7a4_52 rfl ?_
  rotate_left
  exact k
theorem sd_lost {n : Int32} {K : Int32 → Hp → Prop} (hW : TW h 27 T) (hO : OKT T) (k : ∀ h', SC h h' → K (fLost T n) h') : Call G (d + 3) mX6_lost [.ref 0, .int n] h (pI K) := by
  obtain ⟨o0, o1, o2, o3, o4, o5, o6, o7, o8⟩ := id hO
  refine Call.of (M := mX6_lost) (n := 2) (by decide +kernel) rfl ?_
  show WP _ _ _ _ 0 [some (.ref 0), some (.int n), none, none] [] _
  refine wp_aload_n (pc := 0) (i := 0) dX6_lost_0 rfl rfl ?_
  refine wp_cV0i (pc := 1) lk_X6_154 dX6_lost_1 rfl rfl rfl (sp_noTown hW hO ?_)
  first | (with_reducible show WP _ _ _ _ _ _ (Value.int (bI _) :: _) _; refine wp_if_eqB (pc := 4) (tgt := 10) dX6_lost_4 (by decide) (fun c4 => ?_) (fun c4 => ?_)) | (with_reducible show WP _ _ _ _ _ _ (Value.int (nI _) :: _) _; refine wp_if_eqN (pc := 4) (tgt := 10) dX6_lost_4 (by decide) (by omega) (fun c4 => ?_) (fun c4 => ?_)) | refine wp_if_eq (pc := 4) (tgt := 10) dX6_lost_4 (by decide) (fun c4 => ?_) (fun c4 => ?_)
  refine wp_iload_n (pc := 10) (i := 1) dX6_lost_10 rfl rfl ?_
  refine wp_iconst (pc := 11) (v := nI 1) dX6_lost_11 rfl ?_
  refine wp_bipush (pc := 12) (v := nI 60) dX6_lost_12 rfl ?_
  refine wp_cS3i (pc := 14) lk_X6_74 dX6_lost_14 rfl (sp_btw (by decide) (by decide) ?_)
  first | (with_reducible show WP _ _ _ _ _ _ (Value.int (bI _) :: _) _; refine wp_if_neB (pc := 17) (tgt := 23) dX6_lost_17 (by decide) (fun c17 => ?_) (fun c17 => ?_)) | (with_reducible show WP _ _ _ _ _ _ (Value.int (nI _) :: _) _; refine wp_if_neN (pc := 17) (tgt := 23) dX6_lost_17 (by decide) (by omega) (fun c17 => ?_) (fun c17 => ?_)) | refine wp_if_ne (pc := 17) (tgt := 23) dX6_lost_17 (by decide) (fun c17 => ?_) (fun c17 => ?_)
  rotate_left
  refine wp_ldc (pc := 20) kn_X6_78 dX6_lost_20 ?_
  refine wp_iret (pc := 22) dX6_lost_22 rfl ?_
  rotate_left
  refine wp_ldc (pc := 7) kn_X6_153 dX6_lost_7 ?_
  refine wp_iret (pc := 9) dX6_lost_9 rfl ?_
  rotate_left
  · have z := of_decide_eq_false c4
    rw [fLost, if_neg z, c17] at k
    obtain ⟨m, -, hm, rfl⟩ := btw_t (by decide) c17
    rw [nI_clamp (by omega)] at k
    have loop : ∀ j i h1, i + j = m → TW h1 27 T → SC h h1 → WP G (d + 3) mX6_lost (pI K) 27 [some (.ref 0), some (.int (nI m)), some (.int (nI (smU (fun i => lsn T i) i))), some (.int (nI i))] [] h1 := by
      intro j
      induction j with
      | zero =>
        intro i h1 hij hW1 hs1
        refine wp_iload_n (pc := 27) (i := 3) dX6_lost_27 rfl rfl ?_
        refine wp_iload_n (pc := 28) (i := 1) dX6_lost_28 rfl rfl ?_
        first | (with_reducible show WP _ _ _ _ _ _ (Value.int (nI _) :: Value.int (nI _) :: _) _; refine wp_icmp_geN (pc := 29) (tgt := 52) dX6_lost_29 (by decide) (by omega) (by omega) (fun c29 => ?_) (fun c29 => ?_)) | refine wp_icmp_ge (pc := 29) (tgt := 52) dX6_lost_29 (by decide) (fun c29 => ?_) (fun c29 => ?_)
        refine wp_iload_n (pc := 52) (i := 2) dX6_lost_52 rfl rfl ?_
        refine wp_iret (pc := 53) dX6_lost_53 rfl ?_
        rotate_left
        rotate_left
        · rw [show i = m by omega]; exact k h1 hs1
        · exact absurd hij (by omega)
      | succ j ih =>
        intro i h1 hij hW1 hs1
        have b : lt_ T i (T 1) < 64 := Nat.lt_of_lt_of_le (lt_lt T i (T 1)) (Nat.pow_le_pow_right (by decide) o1)
        refine wp_iload_n (pc := 27) (i := 3) dX6_lost_27 rfl rfl ?_
        refine wp_iload_n (pc := 28) (i := 1) dX6_lost_28 rfl rfl ?_
        first | (with_reducible show WP _ _ _ _ _ _ (Value.int (nI _) :: Value.int (nI _) :: _) _; refine wp_icmp_geN (pc := 29) (tgt := 52) dX6_lost_29 (by decide) (by omega) (by omega) (fun c29 => ?_) (fun c29 => ?_)) | refine wp_icmp_ge (pc := 29) (tgt := 52) dX6_lost_29 (by decide) (fun c29 => ?_) (fun c29 => ?_)
        rotate_left
        refine wp_iload_n (pc := 32) (i := 2) dX6_lost_32 rfl rfl ?_
        refine wp_aload_n (pc := 33) (i := 0) dX6_lost_33 rfl rfl ?_
        refine wp_gfr (pc := 34) fk_X6_26 dX6_lost_34 rfl rfl (by decide) ?_
        refine wp_iload_n (pc := 37) (i := 3) dX6_lost_37 rfl rfl ?_
        refine wp_cV1i (pc := 38) lk_X6_200 dX6_lost_38 rfl rfl rfl (sp_lostOn isT_27 hW1 hO (by omega) (fun h2 s2 => ?_))
        refine wp_cS1i (pc := 41) lk_X6_236 dX6_lost_41 rfl (sp_bitCount ?_)
        rotate_left
        · exact absurd hij (by omega)
        rw [bc_pop b, pop_lt o1]
        first | (with_reducible show WP _ _ _ _ _ _ (Value.int (nI _) :: Value.int (nI _) :: _) _; refine wp_iaddN (pc := 44) dX6_lost_44 ?_) | refine wp_iadd (pc := 44) dX6_lost_44 ?_
        refine wp_istore_n (pc := 45) (i := 2) dX6_lost_45 rfl rfl (by decide) rfl ?_
        dsimp only [List.set_cons_zero, List.set_cons_succ]
        first | refine wp_iincN (pc := 46) (i := 3) (n := 1) dX6_lost_46 rfl rfl (by decide) rfl ?_ | refine wp_iinc (pc := 46) (i := 3) dX6_lost_46 rfl rfl rfl (by decide) rfl ?_
        dsimp only [List.set_cons_zero, List.set_cons_succ]
        refine wp_goto (pc := 49) (tgt := 27) dX6_lost_49 (by decide) ?_
        rotate_left
        exact ih (i + 1) h2 (by omega) (s2.tw hW1) (hs1.tr (SC.st s2))
    refine wp_iconst (pc := 23) (v := nI 0) dX6_lost_23 rfl ?_
    refine wp_istore_n (pc := 24) (i := 2) dX6_lost_24 rfl rfl (by decide) rfl ?_
    dsimp only [List.set_cons_zero, List.set_cons_succ]
    refine wp_iconst (pc := 25) (v := nI 0) dX6_lost_25 rfl ?_
    refine wp_istore_n (pc := 26) (i := 3) dX6_lost_26 rfl rfl (by decide) rfl ?_
    dsimp only [List.set_cons_zero, List.set_cons_succ]
    rotate_left
    exact loop m 0 h (by omega) hW (SC.rf h)
  · rw [fLost, if_neg (of_decide_eq_false c4), c17] at k; exact k h (SC.rf h)
  · rw [fLost, if_pos (of_decide_eq_true c4)] at k; exact k h (SC.rf h)
theorem sd_even {n : Int32} {K : Int32 → Hp → Prop} (hW : TW h 27 T) (hO : OKT T) (hd : T 4 ≤ 999) (k : ∀ h', SC h h' → K (fEven T n) h') : Call G (d + 5) mX6_even [.ref 0, .int n] h (pI K) := by
  obtain ⟨o0, o1, o2, o3, o4, o5, o6, o7, o8⟩ := id hO
  refine Call.of (M := mX6_even) (n := 3) (by decide +kernel) rfl ?_
  show WP _ _ _ _ 0 [some (.ref 0), some (.int n), none, none, none] [] _
  refine wp_aload_n (pc := 0) (i := 0) dX6_even_0 rfl rfl ?_
  refine wp_cV0i (pc := 1) lk_X6_154 dX6_even_1 rfl rfl rfl (sp_noTown hW hO ?_)
  first | (with_reducible show WP _ _ _ _ _ _ (Value.int (bI _) :: _) _; refine wp_if_eqB (pc := 4) (tgt := 10) dX6_even_4 (by decide) (fun c4 => ?_) (fun c4 => ?_)) | (with_reducible show WP _ _ _ _ _ _ (Value.int (nI _) :: _) _; refine wp_if_eqN (pc := 4) (tgt := 10) dX6_even_4 (by decide) (by omega) (fun c4 => ?_) (fun c4 => ?_)) | refine wp_if_eq (pc := 4) (tgt := 10) dX6_even_4 (by decide) (fun c4 => ?_) (fun c4 => ?_)
  refine wp_iload_n (pc := 10) (i := 1) dX6_even_10 rfl rfl ?_
  refine wp_iconst (pc := 11) (v := nI 0) dX6_even_11 rfl ?_
  refine wp_bipush (pc := 12) (v := nI 60) dX6_even_12 rfl ?_
  refine wp_cS3i (pc := 14) lk_X6_74 dX6_even_14 rfl (sp_btw (by decide) (by decide) ?_)
  first | (with_reducible show WP _ _ _ _ _ _ (Value.int (bI _) :: _) _; refine wp_if_neB (pc := 17) (tgt := 23) dX6_even_17 (by decide) (fun c17 => ?_) (fun c17 => ?_)) | (with_reducible show WP _ _ _ _ _ _ (Value.int (nI _) :: _) _; refine wp_if_neN (pc := 17) (tgt := 23) dX6_even_17 (by decide) (by omega) (fun c17 => ?_) (fun c17 => ?_)) | refine wp_if_ne (pc := 17) (tgt := 23) dX6_even_17 (by decide) (fun c17 => ?_) (fun c17 => ?_)
  rotate_left
  refine wp_ldc (pc := 20) kn_X6_78 dX6_even_20 ?_
  refine wp_iret (pc := 22) dX6_even_22 rfl ?_
  rotate_left
  refine wp_ldc (pc := 7) kn_X6_153 dX6_even_7 ?_
  refine wp_iret (pc := 9) dX6_even_9 rfl ?_
  rotate_left
  · have z := of_decide_eq_false c4
    rw [fEven, if_neg z, c17] at k
    obtain ⟨m, -, hm, rfl⟩ := btw_t (by decide) c17
    rw [nI_clamp (by omega)] at k
    obtain ⟨a, b, e⟩ := itP_keep hO (by omega) m (by omega)
    have e0 := e 0 (by omega)
    have p0 := (o5 (by omega)).1
    have hf : ∀ c, c < 5 → fdU (itP T m) c = itP T m (5 + c) := fun c hc => by have := (a.2.2.2.2.2.2.1 c hc).1; unfold fdU; omega
    have hx : ∀ n, mxU (fdU (itP T m)) (n + 1) ≤ 99 ∧ mnU (fdU (itP T m)) (n + 1) ≤ mxU (fdU (itP T m)) (n + 1) := mxn _ (fun i => by unfold fdU; omega)
    refine wp_aload_n (pc := 23) (i := 0) dX6_even_23 rfl rfl ?_
    refine wp_cV0v (pc := 24) lk_X6_212 dX6_even_24 rfl rfl rfl (sp_openTrial hW hO (fun h1 hW1 hf1 => ?_))
    refine wp_aload_n (pc := 27) (i := 0) dX6_even_27 rfl rfl ?_
    refine wp_gfr (pc := 28) fk_X6_30 dX6_even_28 rfl rfl (by decide) ?_
    refine wp_iload_n (pc := 31) (i := 1) dX6_even_31 rfl rfl ?_
    refine wp_cV1v (pc := 32) lk_X6_215 dX6_even_32 rfl rfl rfl (sp_passDays isT_39 hW1 hO (by omega) hm (by omega) (fun h2 hW2 hF2 => ?_))
    rotate_left
    have kk := k h2 ((SC.tri hf1).tr (SC.fr hF2))
    obtain ⟨r0, r1, r2, r3, r4, r5, r6, r7, r8, r9, r10, r11, r12, r13⟩ := id hW2
    have r5 : ∀ q, q < itP T m 0 → h2 40 q = nI (itP T m (5 + q)) := r5
    have r6 : ∀ q, q < itP T m 0 → h2 41 q = nI (itP T m (10 + q)) := r6
    have r7 : ∀ q, q < itP T m 0 → h2 42 q = nI (itP T m (15 + q)) := r7
    have r8 : ∀ q, q < itP T m 1 → h2 43 q = nI (itP T m (20 + q)) := r8
    have r9 : ∀ q, q < itP T m 1 → h2 44 q = nI (itP T m (26 + q)) := r9
    have r10 : ∀ q, q < itP T m 1 → h2 45 q = nI (itP T m (32 + q)) := r10
    have r11 : ∀ q, q < itP T m 1 → h2 46 q = nI (itP T m (38 + q)) := r11
    have r12 : ∀ q, q < itP T m 1 → h2 47 q = nI (itP T m (44 + q)) := r12
    have r13 : ∀ q, q < itP T m 1 → h2 48 q = nI (itP T m (50 + q)) := r13
    rw [e0] at r2
    have r5 : ∀ c, c < T 0 → h2 40 c = nI (fdU (itP T m) c) := fun c hc => by rw [hf c (by omega)]; exact r5 c (by rw [e0]; exact hc)
    have loop : ∀ j i, i + 1 + j = T 0 → WP G (d + 5) mX6_even (pI K) 58 [some (.ref 0), some (.int (nI m)), some (.int (nI (mxU (fdU (itP T m)) (i + 1)))), some (.int (nI (mnU (fdU (itP T m)) (i + 1)))), some (.int (nI (i + 1)))] [] h2 := by
      intro j
      induction j with
      | zero =>
        intro i hij
        have := hx i
        refine wp_iload (pc := 58) (i := 4) dX6_even_58 rfl ?_
        refine wp_aload_n (pc := 60) (i := 0) dX6_even_60 rfl rfl ?_
        refine wp_gfr (pc := 61) fk_X6_30 dX6_even_61 rfl rfl (by decide) ?_
        refine wp_gfv (pc := 64) fk_X6_260 dX6_even_64 rfl rfl (by first | with_reducible assumption | with_reducible exact hs_same _ _ _ _ | rfl) ?_
        first | (with_reducible show WP _ _ _ _ _ _ (Value.int (nI _) :: Value.int (nI _) :: _) _; refine wp_icmp_geN (pc := 67) (tgt := 106) dX6_even_67 (by decide) (by omega) (by omega) (fun c67 => ?_) (fun c67 => ?_)) | refine wp_icmp_ge (pc := 67) (tgt := 106) dX6_even_67 (by decide) (fun c67 => ?_) (fun c67 => ?_)
        refine wp_iload_n (pc := 106) (i := 2) dX6_even_106 rfl rfl ?_
        refine wp_iload_n (pc := 107) (i := 3) dX6_even_107 rfl rfl ?_
        first | (with_reducible show WP _ _ _ _ _ _ (Value.int (nI _) :: Value.int (nI _) :: _) _; refine wp_isubN (pc := 108) dX6_even_108 (by omega) ?_) | refine wp_isub (pc := 108) dX6_even_108 ?_
        refine wp_iret (pc := 109) dX6_even_109 rfl ?_
        rotate_left
        rotate_left
        · rw [show T 0 = i + 1 by omega] at kk; exact kk
        · exact absurd hij (by omega)
      | succ j ih =>
        intro i hij
        have := hx i
        have e := r5 (i + 1) (by omega)
        have := fun c => show fdU (itP T m) c ≤ 99 by unfold fdU; omega
        have b3 := this (i + 1)
        have b4 := mxmn (fdU (itP T m)) (i + 1)
        refine wp_iload (pc := 58) (i := 4) dX6_even_58 rfl ?_
        refine wp_aload_n (pc := 60) (i := 0) dX6_even_60 rfl rfl ?_
        refine wp_gfr (pc := 61) fk_X6_30 dX6_even_61 rfl rfl (by decide) ?_
        refine wp_gfv (pc := 64) fk_X6_260 dX6_even_64 rfl rfl (by first | with_reducible assumption | with_reducible exact hs_same _ _ _ _ | rfl) ?_
        first | (with_reducible show WP _ _ _ _ _ _ (Value.int (nI _) :: Value.int (nI _) :: _) _; refine wp_icmp_geN (pc := 67) (tgt := 106) dX6_even_67 (by decide) (by omega) (by omega) (fun c67 => ?_) (fun c67 => ?_)) | refine wp_icmp_ge (pc := 67) (tgt := 106) dX6_even_67 (by decide) (fun c67 => ?_) (fun c67 => ?_)
        rotate_left
        refine wp_iload_n (pc := 70) (i := 2) dX6_even_70 rfl rfl ?_
        refine wp_aload_n (pc := 71) (i := 0) dX6_even_71 rfl rfl ?_
        refine wp_gfr (pc := 72) fk_X6_30 dX6_even_72 rfl rfl (by decide) ?_
        refine wp_gfr (pc := 75) fk_X6_203 dX6_even_75 rfl rfl (by decide) ?_
        refine wp_iload (pc := 78) (i := 4) dX6_even_78 rfl ?_
        first | (with_reducible show WP _ _ _ _ _ _ (Value.int (nI _) :: _) _; refine wp_ialdN (pc := 80) dX6_even_80 rfl (by omega) (by first | with_reducible assumption | with_reducible exact hs_same _ _ _ _ | rfl) ?_) | refine wp_iald (pc := 80) dX6_even_80 rfl (by assumption) rfl ?_
        rotate_left
        · exact absurd hij (by omega)
        refine wp_maxN (pc := 81) lk_X6_263 dX6_even_81 (by omega) (by omega) rfl ?_
        refine wp_istore_n (pc := 84) (i := 2) dX6_even_84 rfl rfl (by decide) rfl ?_
        dsimp only [List.set_cons_zero, List.set_cons_succ]
        refine wp_iload_n (pc := 85) (i := 3) dX6_even_85 rfl rfl ?_
        refine wp_aload_n (pc := 86) (i := 0) dX6_even_86 rfl rfl ?_
        refine wp_gfr (pc := 87) fk_X6_30 dX6_even_87 rfl rfl (by decide) ?_
        refine wp_gfr (pc := 90) fk_X6_203 dX6_even_90 rfl rfl (by decide) ?_
        refine wp_iload (pc := 93) (i := 4) dX6_even_93 rfl ?_
        first | (with_reducible show WP _ _ _ _ _ _ (Value.int (nI _) :: _) _; refine wp_ialdN (pc := 95) dX6_even_95 rfl (by omega) (by first | with_reducible assumption | with_reducible exact hs_same _ _ _ _ | rfl) ?_) | refine wp_iald (pc := 95) dX6_even_95 rfl (by assumption) rfl ?_
        rotate_left
        refine wp_minN (pc := 96) lk_X6_268 dX6_even_96 (by omega) (by omega) rfl ?_
        refine wp_istore_n (pc := 99) (i := 3) dX6_even_99 rfl rfl (by decide) rfl ?_
        dsimp only [List.set_cons_zero, List.set_cons_succ]
        first | refine wp_iincN (pc := 100) (i := 4) (n := 1) dX6_even_100 rfl rfl (by decide) rfl ?_ | refine wp_iinc (pc := 100) (i := 4) dX6_even_100 rfl rfl rfl (by decide) rfl ?_
        dsimp only [List.set_cons_zero, List.set_cons_succ]
        refine wp_goto (pc := 103) (tgt := 58) dX6_even_103 (by decide) ?_
        rotate_left
        exact ih (i + 1) (by omega)
    have q0 := r5 0 (by omega)
    refine wp_aload_n (pc := 35) (i := 0) dX6_even_35 rfl rfl ?_
    refine wp_gfr (pc := 36) fk_X6_30 dX6_even_36 rfl rfl (by decide) ?_
    refine wp_gfr (pc := 39) fk_X6_203 dX6_even_39 rfl rfl (by decide) ?_
    refine wp_iconst (pc := 42) (v := nI 0) dX6_even_42 rfl ?_
    first | (with_reducible show WP _ _ _ _ _ _ (Value.int (nI _) :: _) _; refine wp_ialdN (pc := 43) dX6_even_43 rfl (by omega) (by first | with_reducible assumption | with_reducible exact hs_same _ _ _ _ | rfl) ?_) | refine wp_iald (pc := 43) dX6_even_43 rfl (by assumption) rfl ?_
    refine wp_istore_n (pc := 44) (i := 2) dX6_even_44 rfl rfl (by decide) rfl ?_
    dsimp only [List.set_cons_zero, List.set_cons_succ]
    refine wp_aload_n (pc := 45) (i := 0) dX6_even_45 rfl rfl ?_
    refine wp_gfr (pc := 46) fk_X6_30 dX6_even_46 rfl rfl (by decide) ?_
    refine wp_gfr (pc := 49) fk_X6_203 dX6_even_49 rfl rfl (by decide) ?_
    refine wp_iconst (pc := 52) (v := nI 0) dX6_even_52 rfl ?_
    first | (with_reducible show WP _ _ _ _ _ _ (Value.int (nI _) :: _) _; refine wp_ialdN (pc := 53) dX6_even_53 rfl (by omega) (by first | with_reducible assumption | with_reducible exact hs_same _ _ _ _ | rfl) ?_) | refine wp_iald (pc := 53) dX6_even_53 rfl (by assumption) rfl ?_
    refine wp_istore_n (pc := 54) (i := 3) dX6_even_54 rfl rfl (by decide) rfl ?_
    dsimp only [List.set_cons_zero, List.set_cons_succ]
    refine wp_iconst (pc := 55) (v := nI 1) dX6_even_55 rfl ?_
    refine wp_istore (pc := 56) (i := 4) dX6_even_56 rfl (by decide) rfl ?_
    dsimp only [List.set_cons_zero, List.set_cons_succ]
    rotate_left
    have w := loop (T 0 - 1) 0 (by omega)
    rw [show mxU (fdU (itP T m)) (0 + 1) = fdU (itP T m) 0 by show max 0 (fdU (itP T m) 0) = fdU (itP T m) 0; omega, show mnU (fdU (itP T m)) (0 + 1) = fdU (itP T m) 0 by show min 99 (fdU (itP T m) 0) = fdU (itP T m) 0; unfold fdU; omega] at w
    exact w
  · rw [fEven, if_neg (of_decide_eq_false c4), c17] at k; exact k h (SC.rf h)
  · rw [fEven, if_pos (of_decide_eq_true c4)] at k; exact k h (SC.rf h)
end DLOST
