/-! a town, as 56 naturals: 0 children, 1 grandmothers, 2 eats, 3 parts, 4 day, 5.. fed, 10.. spoilt, 15.. told, 20.. kinds, 26.. art, 32.. first, 38.. step, 44.. sick, 50.. quarrels -/
abbrev Tn : Type := Nat → Nat
def hst (T : Tn) (n g : Nat) : Nat := (T (32 + g) + T (38 + g) * (T 4 + n)) % T 0
def wt (T : Tn) (n g : Nat) : Option Nat := if n < T (44 + g) then none else some (hst T n g)
def oI (o : Option Nat) : Int32 := match o with
  | none => kNONE
  | some c => nI c
def isT (t : Nat) : Prop := t + 12 ≤ 112 ∧ shp[t]? = some (0, 5, townF t) ∧ shp[t + 1]? = some (1, 5, []) ∧ shp[t + 2]? = some (1, 5, []) ∧ shp[t + 3]? = some (1, 5, []) ∧ shp[t + 4]? = some (1, 6, []) ∧ shp[t + 5]? = some (1, 6, []) ∧ shp[t + 6]? = some (1, 6, []) ∧ shp[t + 7]? = some (1, 6, []) ∧ shp[t + 8]? = some (1, 6, []) ∧ shp[t + 9]? = some (1, 6, []) ∧ shp[t + 10]? = some (1, 6, []) ∧ shp[t + 11]? = some (1, 5, [])
theorem isT_15 : isT 15 := ⟨by decide, rfl, rfl, rfl, rfl, rfl, rfl, rfl, rfl, rfl, rfl, rfl, rfl⟩
theorem isT_27 : isT 27 := ⟨by decide, rfl, rfl, rfl, rfl, rfl, rfl, rfl, rfl, rfl, rfl, rfl, rfl⟩
theorem isT_100 : isT 100 := ⟨by decide, rfl, rfl, rfl, rfl, rfl, rfl, rfl, rfl, rfl, rfl, rfl, rfl⟩
theorem isT_39 : isT 39 := ⟨by decide, rfl, rfl, rfl, rfl, rfl, rfl, rfl, rfl, rfl, rfl, rfl, rfl⟩
def TW (h : Hp) (t : Nat) (T : Tn) : Prop := h t 0 = nI (T 2) ∧ h t 1 = nI (T 3) ∧ h t 2 = nI (T 0) ∧ h t 3 = nI (T 1) ∧ h t 4 = nI (T 4) ∧
  (∀ c, c < T 0 → h (t + 1) c = nI (T (5 + c))) ∧ (∀ c, c < T 0 → h (t + 2) c = nI (T (10 + c))) ∧ (∀ c, c < T 0 → h (t + 3) c = nI (T (15 + c))) ∧
  (∀ g, g < T 1 → h (t + 4) g = nI (T (20 + g))) ∧ (∀ g, g < T 1 → h (t + 5) g = nI (T (26 + g))) ∧ (∀ g, g < T 1 → h (t + 6) g = nI (T (32 + g))) ∧ (∀ g, g < T 1 → h (t + 7) g = nI (T (38 + g))) ∧ (∀ g, g < T 1 → h (t + 8) g = nI (T (44 + g))) ∧ (∀ g, g < T 1 → h (t + 9) g = nI (T (50 + g)))
def OKT (T : Tn) : Prop := T 0 ≤ 5 ∧ T 1 ≤ 6 ∧ T 2 ≤ 9 ∧ T 3 ≤ 6 ∧ T 4 ≤ 1200 ∧ (0 < T 1 → 0 < T 0 ∧ 0 < T 3) ∧ (∀ c, c < 5 → T (5 + c) ≤ 99 ∧ T (10 + c) ≤ 20 ∧ T (15 + c) < 64) ∧
  (∀ g, g < T 1 → (1 ≤ T (20 + g) ∧ T (20 + g) ≤ 5) ∧ T (26 + g) ≤ 9 ∧ T (32 + g) < T 0 ∧ T (38 + g) ≤ 4 ∧ T (44 + g) ≤ 60 ∧ T (50 + g) < 64) ∧ (∀ c, T 0 ≤ c → c < 5 → T (5 + c) = 0 ∧ T (10 + c) = 0)
/-- cells outside a town stay -/
def Fr (h h' : Hp) (t : Nat) : Prop := ∀ a, a < t ∨ t + 11 < a → h' a = h a
theorem Fr.rf (h : Hp) (t : Nat) : Fr h h t := fun _ _ => rfl
theorem Fr.tr {h h1 h2 : Hp} {t : Nat} (a : Fr h h1 t) (b : Fr h1 h2 t) : Fr h h2 t := fun q e => (b q e).trans (a q e)
theorem Fr.hs {h h1 : Hp} {t a k : Nat} {v : Int32} (f : Fr h h1 t) (h1' : t ≤ a) (h2 : a ≤ t + 11) : Fr h (hs h1 a k v) t := fun q e => (hs_ne (by omega)).trans (f q e)
theorem prod_le {a b m n : Nat} (h1 : a ≤ m) (h2 : b ≤ n) : a * b ≤ m * n := Nat.mul_le_mul h1 h2
section TOWN
variable {G : Gt} {d : Nat} {h : Hp} {t : Nat} {T : Tn}
theorem wt_none {n g : Nat} (h : n < T (44 + g)) : wt T n g = none := if_pos h
theorem wt_some {n g : Nat} (h : ¬ n < T (44 + g)) : wt T n g = some (hst T n g) := if_neg h
theorem wt_lt {n g c : Nat} (h0 : 0 < T 0) (h : wt T n g = some c) : c < T 0 := by
  unfold wt at h
  split at h
  · cases h
  · cases h; exact Nat.mod_lt _ h0
theorem nI_none {c : Nat} (h : c < 2 ^ 31) : ¬ nI c = kNONE := fun e => by
  have := congrArg Int32.toInt e
  rw [nI_toInt h] at this
  have e2 : kNONE.toInt = -1000000 := by decide
  omega
theorem TW.cg {h' : Hp} (hW : TW h t T) (e : ∀ a, a ≠ t + 10 → a ≠ t + 11 → h' a = h a) : TW h' t T := by
  unfold TW at hW ⊢
  rw [e t (by omega) (by omega), e (t + 1) (by omega) (by omega), e (t + 2) (by omega) (by omega), e (t + 3) (by omega) (by omega), e (t + 4) (by omega) (by omega), e (t + 5) (by omega) (by omega), e (t + 6) (by omega) (by omega), e (t + 7) (by omega) (by omega), e (t + 8) (by omega) (by omega), e (t + 9) (by omega) (by omega)]
  exact hW
theorem sp_hostOf {g n : Nat} {K : Int32 → Hp → Prop} (hT : isT t) (hW : TW h t T) (hO : OKT T) (hg : g < T 1) (hn : n ≤ 100) (k : K (oI (wt T n g)) h) : Call G d mX5_hostOf [.ref t, .int (nI g), .int (nI n)] h (pI K) := by
  obtain ⟨ht, s0, s1, s2, s3, s4, s5, s6, s7, s8, s9, s10, s11⟩ := id hT
  obtain ⟨e0, e1, e2, e3, e4, e5, e6, e7, e8, e9, e10, e11, e12, e13⟩ := id hW
  obtain ⟨o0, o1, o2, o3, o4, o5, o6, o7, o8⟩ := id hO
  obtain ⟨-, g1, g2, g3, g4, g5⟩ := o7 g hg
  have hp := prod_le g3 (show T 4 + n ≤ 1300 by omega)
  have := o5 (by omega)
  refine Call.of (M := mX5_hostOf) (n := 0) (by decide +kernel) rfl ?_
  show WP _ _ _ _ 0 [some (.ref t), some (.int (nI g)), some (.int (nI n))] [] _
  refine wp_aload_n (pc := 0) (i := 0) dX5_hostOf_0 rfl rfl ?_
  refine wp_gfv (pc := 1) fk_X5_45 dX5_hostOf_1 s0 rfl (by first | with_reducible assumption | with_reducible exact hs_same _ _ _ _ | with_reducible exact e10 _ (by omega) | with_reducible exact e11 _ (by omega) | with_reducible exact e12 _ (by omega) | rfl) ?_
  refine wp_iconst (pc := 4) (v := nI 1) dX5_hostOf_4 rfl ?_
  first | (with_reducible show WP _ _ _ _ _ _ (Value.int (nI _) :: Value.int (nI _) :: _) _; refine wp_icmp_ltN (pc := 5) (tgt := 18) dX5_hostOf_5 (by decide) (by omega) (by omega) (fun c5 => ?_) (fun c5 => ?_)) | refine wp_icmp_lt (pc := 5) (tgt := 18) dX5_hostOf_5 (by decide) (fun c5 => ?_) (fun c5 => ?_)
  refine wp_ldc (pc := 18) kn_X5_61 dX5_hostOf_18 ?_
  refine wp_iret (pc := 20) dX5_hostOf_20 rfl ?_
  rotate_left
  refine wp_aload_n (pc := 8) (i := 0) dX5_hostOf_8 rfl rfl ?_
  refine wp_gfr (pc := 9) fk_X5_33 dX5_hostOf_9 s0 rfl (by omega) ?_
  refine wp_iload_n (pc := 12) (i := 1) dX5_hostOf_12 rfl rfl ?_
  first | (with_reducible show WP _ _ _ _ _ _ (Value.int (nI _) :: _) _; refine wp_ialdN (pc := 13) dX5_hostOf_13 s8 (by omega) (by first | with_reducible assumption | with_reducible exact hs_same _ _ _ _ | with_reducible exact e10 _ (by omega) | with_reducible exact e11 _ (by omega) | with_reducible exact e12 _ (by omega) | rfl) ?_) | refine wp_iald (pc := 13) dX5_hostOf_13 s8 (by assumption) rfl ?_
  refine wp_iload_n (pc := 14) (i := 2) dX5_hostOf_14 rfl rfl ?_
  first | (with_reducible show WP _ _ _ _ _ _ (Value.int (nI _) :: Value.int (nI _) :: _) _; refine wp_icmp_leN (pc := 15) (tgt := 21) dX5_hostOf_15 (by decide) (by omega) (by omega) (fun c15 => ?_) (fun c15 => ?_)) | refine wp_icmp_le (pc := 15) (tgt := 21) dX5_hostOf_15 (by decide) (fun c15 => ?_) (fun c15 => ?_)
  refine wp_aload_n (pc := 21) (i := 0) dX5_hostOf_21 rfl rfl ?_
  refine wp_gfr (pc := 22) fk_X5_27 dX5_hostOf_22 s0 rfl (by omega) ?_
  refine wp_iload_n (pc := 25) (i := 1) dX5_hostOf_25 rfl rfl ?_
  first | (with_reducible show WP _ _ _ _ _ _ (Value.int (nI _) :: _) _; refine wp_ialdN (pc := 26) dX5_hostOf_26 s6 (by omega) (by first | with_reducible assumption | with_reducible exact hs_same _ _ _ _ | with_reducible exact e10 _ (by omega) | with_reducible exact e11 _ (by omega) | with_reducible exact e12 _ (by omega) | rfl) ?_) | refine wp_iald (pc := 26) dX5_hostOf_26 s6 (by assumption) rfl ?_
  refine wp_aload_n (pc := 27) (i := 0) dX5_hostOf_27 rfl rfl ?_
  refine wp_gfr (pc := 28) fk_X5_30 dX5_hostOf_28 s0 rfl (by omega) ?_
  refine wp_iload_n (pc := 31) (i := 1) dX5_hostOf_31 rfl rfl ?_
  first | (with_reducible show WP _ _ _ _ _ _ (Value.int (nI _) :: _) _; refine wp_ialdN (pc := 32) dX5_hostOf_32 s7 (by omega) (by first | with_reducible assumption | with_reducible exact hs_same _ _ _ _ | with_reducible exact e10 _ (by omega) | with_reducible exact e11 _ (by omega) | with_reducible exact e12 _ (by omega) | rfl) ?_) | refine wp_iald (pc := 32) dX5_hostOf_32 s7 (by assumption) rfl ?_
  refine wp_aload_n (pc := 33) (i := 0) dX5_hostOf_33 rfl rfl ?_
  refine wp_gfv (pc := 34) fk_X5_58 dX5_hostOf_34 s0 rfl (by first | with_reducible assumption | with_reducible exact hs_same _ _ _ _ | with_reducible exact e10 _ (by omega) | with_reducible exact e11 _ (by omega) | with_reducible exact e12 _ (by omega) | rfl) ?_
  refine wp_iload_n (pc := 37) (i := 2) dX5_hostOf_37 rfl rfl ?_
  first | (with_reducible show WP _ _ _ _ _ _ (Value.int (nI _) :: Value.int (nI _) :: _) _; refine wp_iaddN (pc := 38) dX5_hostOf_38 ?_) | refine wp_iadd (pc := 38) dX5_hostOf_38 ?_
  first | (with_reducible show WP _ _ _ _ _ _ (Value.int (nI _) :: Value.int (nI _) :: _) _; refine wp_imulN (pc := 39) dX5_hostOf_39 ?_) | refine wp_imul (pc := 39) dX5_hostOf_39 ?_
  first | (with_reducible show WP _ _ _ _ _ _ (Value.int (nI _) :: Value.int (nI _) :: _) _; refine wp_iaddN (pc := 40) dX5_hostOf_40 ?_) | refine wp_iadd (pc := 40) dX5_hostOf_40 ?_
  refine wp_aload_n (pc := 41) (i := 0) dX5_hostOf_41 rfl rfl ?_
  refine wp_gfv (pc := 42) fk_X5_45 dX5_hostOf_42 s0 rfl (by first | with_reducible assumption | with_reducible exact hs_same _ _ _ _ | with_reducible exact e10 _ (by omega) | with_reducible exact e11 _ (by omega) | with_reducible exact e12 _ (by omega) | rfl) ?_
  first | (with_reducible show WP _ _ _ _ _ _ (Value.int (nI _) :: Value.int (nI _) :: _) _; refine wp_iremN (pc := 45) dX5_hostOf_45 (by omega) (by omega) (by omega) ?_) | refine wp_irem (pc := 45) dX5_hostOf_45 (by first | assumption | decide) ?_
  refine wp_iret (pc := 46) dX5_hostOf_46 rfl ?_
  rotate_left
  refine wp_ldc (pc := 18) kn_X5_61 dX5_hostOf_18 ?_
  refine wp_iret (pc := 20) dX5_hostOf_20 rfl ?_
  rotate_left
  · exact absurd c5 (by omega)
  · rw [wt_some (by omega)] at k; exact k
  · rw [wt_none (by omega)] at k; exact k
theorem sp_hostN {g n : Nat} {K : Int32 → Hp → Prop} (hT : isT t) (hW : TW h t T) (hO : OKT T) (hg : g < T 1) (hn : n ≤ 100) (ho : wt T n g = none) (k : K kNONE h) : Call G d mX5_hostOf [.ref t, .int (nI g), .int (nI n)] h (pI K) := sp_hostOf hT hW hO hg hn (by rw [ho]; exact k)
theorem sp_hostS {g n c : Nat} {K : Int32 → Hp → Prop} (hT : isT t) (hW : TW h t T) (hO : OKT T) (hg : g < T 1) (hn : n ≤ 100) (ho : wt T n g = some c) (k : K (nI c) h) : Call G d mX5_hostOf [.ref t, .int (nI g), .int (nI n)] h (pI K) := sp_hostOf hT hW hO hg hn (by rw [ho]; exact k)
/-- who is with c on day n, of the first k: bits -/
def gu (T : Tn) (n : Nat) : Nat → Nat → Nat
  | 0, _ => 0
  | k + 1, c => gu T n k c ||| (if wt T n k = some c then 2 ^ k else 0)
/-- the rows host and guests are laid for day n -/
def ST (h h' : Hp) (t : Nat) (T : Tn) (n : Nat) : Prop := (∀ a, a ≠ t + 10 → a ≠ t + 11 → h' a = h a) ∧ (∀ g, g < T 1 → h' (t + 10) g = oI (wt T n g)) ∧ (∀ c, c < T 0 → h' (t + 11) c = nI (gu T n (T 1) c))
theorem sp_seat {n : Nat} {K : Hp → Prop} (hT : isT t) (hW : TW h t T) (hO : OKT T) (hn : n ≤ 100) (k : ∀ h', ST h h' t T n → K h') : Call G (d + 1) mX5_seat [.ref t, .int (nI n)] h (pV K) := by
  obtain ⟨ht, s0, s1, s2, s3, s4, s5, s6, s7, s8, s9, s10, s11⟩ := id hT
  obtain ⟨o0, o1, o2, o3, o4, o5, o6, o7, o8⟩ := id hO
  have loop2 : ∀ m i h1, i + m = T 1 → (∀ a, a ≠ t + 10 → a ≠ t + 11 → h1 a = h a) → (∀ g, g < i → h1 (t + 10) g = oI (wt T n g)) → (∀ c, c < T 0 → h1 (t + 11) c = nI (gu T n i c)) → WP G (d + 1) mX5_seat (pV K) 25 [some (.ref t), some (.int (nI n)), some (.int (nI i))] [] h1 := by
    intro m
    induction m with
    | zero =>
      intro i h1 him hF hH hG
      have hW1 := hW.cg hF
      obtain ⟨e0, e1, e2, e3, e4, e5, e6, e7, e8, e9, e10, e11, e12, e13⟩ := id hW1
      refine wp_iload_n (pc := 25) (i := 2) dX5_seat_25 rfl rfl ?_
      refine wp_aload_n (pc := 26) (i := 0) dX5_seat_26 rfl rfl ?_
      refine wp_gfv (pc := 27) fk_X5_49 dX5_seat_27 s0 rfl (by first | with_reducible assumption | with_reducible exact hs_same _ _ _ _ | rfl) ?_
      first | (with_reducible show WP _ _ _ _ _ _ (Value.int (nI _) :: Value.int (nI _) :: _) _; refine wp_icmp_geN (pc := 30) (tgt := 79) dX5_seat_30 (by decide) (by omega) (by omega) (fun c30 => ?_) (fun c30 => ?_)) | refine wp_icmp_ge (pc := 30) (tgt := 79) dX5_seat_30 (by decide) (fun c30 => ?_) (fun c30 => ?_)
      refine wp_vret (pc := 79) dX5_seat_79 rfl ?_
      rotate_left
      rotate_left
      · exact k h1 ⟨hF, fun g hg => hH g (by omega), fun c hc => by rw [hG c hc, show T 1 = i by omega]⟩
      · exact absurd him (by omega)
    | succ m ih =>
      intro i h1 him hF hH hG
      have hW1 := hW.cg hF
      obtain ⟨e0, e1, e2, e3, e4, e5, e6, e7, e8, e9, e10, e11, e12, e13⟩ := id hW1
      have p0 := o5 (by omega)
      rcases hw : wt T n i with _ | c
      · refine wp_iload_n (pc := 25) (i := 2) dX5_seat_25 rfl rfl ?_
        refine wp_aload_n (pc := 26) (i := 0) dX5_seat_26 rfl rfl ?_
        refine wp_gfv (pc := 27) fk_X5_49 dX5_seat_27 s0 rfl (by first | with_reducible assumption | with_reducible exact hs_same _ _ _ _ | rfl) ?_
        first | (with_reducible show WP _ _ _ _ _ _ (Value.int (nI _) :: Value.int (nI _) :: _) _; refine wp_icmp_geN (pc := 30) (tgt := 79) dX5_seat_30 (by decide) (by omega) (by omega) (fun c30 => ?_) (fun c30 => ?_)) | refine wp_icmp_ge (pc := 30) (tgt := 79) dX5_seat_30 (by decide) (fun c30 => ?_) (fun c30 => ?_)
        rotate_left
        refine wp_aload_n (pc := 33) (i := 0) dX5_seat_33 rfl rfl ?_
        refine wp_gfr (pc := 34) fk_X5_39 dX5_seat_34 s0 rfl (by omega) ?_
        refine wp_iload_n (pc := 37) (i := 2) dX5_seat_37 rfl rfl ?_
        refine wp_aload_n (pc := 38) (i := 0) dX5_seat_38 rfl rfl ?_
        refine wp_iload_n (pc := 39) (i := 2) dX5_seat_39 rfl rfl ?_
        refine wp_iload_n (pc := 40) (i := 1) dX5_seat_40 rfl rfl ?_
        refine wp_cV2i (pc := 41) lk_X5_62 dX5_seat_41 s0 rfl rfl (sp_hostN hT hW1 hO (by omega) hn hw ?_)
        first | (with_reducible show WP _ _ _ _ _ _ (_ :: Value.int (nI _) :: _) _; refine wp_iastN (pc := 44) dX5_seat_44 s10 (by omega) ?_) | refine wp_iast (pc := 44) dX5_seat_44 s10 (by assumption) rfl ?_
        refine wp_aload_n (pc := 45) (i := 0) dX5_seat_45 rfl rfl ?_
        refine wp_gfr (pc := 46) fk_X5_39 dX5_seat_46 s0 rfl (by omega) ?_
        refine wp_iload_n (pc := 49) (i := 2) dX5_seat_49 rfl rfl ?_
        first | (with_reducible show WP _ _ _ _ _ _ (Value.int (nI _) :: _) _; refine wp_ialdN (pc := 50) dX5_seat_50 s10 (by omega) (by first | with_reducible assumption | with_reducible exact hs_same _ _ _ _ | rfl) ?_) | refine wp_iald (pc := 50) dX5_seat_50 s10 (by assumption) rfl ?_
        refine wp_ldc (pc := 51) kn_X5_61 dX5_seat_51 ?_
        first | (with_reducible show WP _ _ _ _ _ _ (Value.int (nI _) :: Value.int (nI _) :: _) _; refine wp_icmp_eqN (pc := 53) (tgt := 73) dX5_seat_53 (by decide) (by omega) (by omega) (fun c53 => ?_) (fun c53 => ?_)) | refine wp_icmp_eq (pc := 53) (tgt := 73) dX5_seat_53 (by decide) (fun c53 => ?_) (fun c53 => ?_)
        first | refine wp_iincN (pc := 73) (i := 2) (n := 1) dX5_seat_73 rfl rfl (by decide) rfl ?_ | refine wp_iinc (pc := 73) (i := 2) dX5_seat_73 rfl rfl rfl (by decide) rfl ?_
        dsimp only [List.set_cons_zero, List.set_cons_succ]
        refine wp_goto (pc := 76) (tgt := 25) dX5_seat_76 (by decide) ?_
        rotate_left
        rotate_left
        · exact absurd c30 (by omega)
        · refine ih (i + 1) _ (by omega) (fun a a1 a2 => by rw [hs_ne a1]; exact hF a a1 a2) (fun g hg => ?_) (fun c hc => ?_)
          · by_cases q : g = i
            · subst q; rw [hs_same, hw]; rfl
            · rw [hs_ix q]; exact hH g (by omega)
          · rw [hs_ne (by omega), hG c hc, gu, hw, if_neg (by simp), Nat.or_zero]
        · exact absurd rfl c53
      · have hc := wt_lt p0.1 hw
        have r1 : ∀ c', c' < T 0 → hs h1 (t + 10) i (nI c) (t + 11) c' = nI (gu T n i c') := fun c' hc => by rw [hs_ne (by omega)]; exact hG c' hc
        refine wp_iload_n (pc := 25) (i := 2) dX5_seat_25 rfl rfl ?_
        refine wp_aload_n (pc := 26) (i := 0) dX5_seat_26 rfl rfl ?_
        refine wp_gfv (pc := 27) fk_X5_49 dX5_seat_27 s0 rfl (by first | with_reducible assumption | with_reducible exact hs_same _ _ _ _ | with_reducible exact r1 _ (by omega) | rfl) ?_
        first | (with_reducible show WP _ _ _ _ _ _ (Value.int (nI _) :: Value.int (nI _) :: _) _; refine wp_icmp_geN (pc := 30) (tgt := 79) dX5_seat_30 (by decide) (by omega) (by omega) (fun c30 => ?_) (fun c30 => ?_)) | refine wp_icmp_ge (pc := 30) (tgt := 79) dX5_seat_30 (by decide) (fun c30 => ?_) (fun c30 => ?_)
        rotate_left
        refine wp_aload_n (pc := 33) (i := 0) dX5_seat_33 rfl rfl ?_
        refine wp_gfr (pc := 34) fk_X5_39 dX5_seat_34 s0 rfl (by omega) ?_
        refine wp_iload_n (pc := 37) (i := 2) dX5_seat_37 rfl rfl ?_
        refine wp_aload_n (pc := 38) (i := 0) dX5_seat_38 rfl rfl ?_
        refine wp_iload_n (pc := 39) (i := 2) dX5_seat_39 rfl rfl ?_
        refine wp_iload_n (pc := 40) (i := 1) dX5_seat_40 rfl rfl ?_
        refine wp_cV2i (pc := 41) lk_X5_62 dX5_seat_41 s0 rfl rfl (sp_hostS hT hW1 hO (by omega) hn hw ?_)
        first | (with_reducible show WP _ _ _ _ _ _ (_ :: Value.int (nI _) :: _) _; refine wp_iastN (pc := 44) dX5_seat_44 s10 (by omega) ?_) | refine wp_iast (pc := 44) dX5_seat_44 s10 (by assumption) rfl ?_
        refine wp_aload_n (pc := 45) (i := 0) dX5_seat_45 rfl rfl ?_
        refine wp_gfr (pc := 46) fk_X5_39 dX5_seat_46 s0 rfl (by omega) ?_
        refine wp_iload_n (pc := 49) (i := 2) dX5_seat_49 rfl rfl ?_
        first | (with_reducible show WP _ _ _ _ _ _ (Value.int (nI _) :: _) _; refine wp_ialdN (pc := 50) dX5_seat_50 s10 (by omega) (by first | with_reducible assumption | with_reducible exact hs_same _ _ _ _ | with_reducible exact r1 _ (by omega) | rfl) ?_) | refine wp_iald (pc := 50) dX5_seat_50 s10 (by assumption) rfl ?_
        refine wp_ldc (pc := 51) kn_X5_61 dX5_seat_51 ?_
        first | (with_reducible show WP _ _ _ _ _ _ (Value.int (nI _) :: Value.int (nI _) :: _) _; refine wp_icmp_eqN (pc := 53) (tgt := 73) dX5_seat_53 (by decide) (by omega) (by omega) (fun c53 => ?_) (fun c53 => ?_)) | refine wp_icmp_eq (pc := 53) (tgt := 73) dX5_seat_53 (by decide) (fun c53 => ?_) (fun c53 => ?_)
        first | refine wp_iincN (pc := 73) (i := 2) (n := 1) dX5_seat_73 rfl rfl (by decide) rfl ?_ | refine wp_iinc (pc := 73) (i := 2) dX5_seat_73 rfl rfl rfl (by decide) rfl ?_
        dsimp only [List.set_cons_zero, List.set_cons_succ]
        refine wp_goto (pc := 76) (tgt := 25) dX5_seat_76 (by decide) ?_
        rotate_left
        refine wp_aload_n (pc := 56) (i := 0) dX5_seat_56 rfl rfl ?_
        refine wp_gfr (pc := 57) fk_X5_42 dX5_seat_57 s0 rfl (by omega) ?_
        refine wp_aload_n (pc := 60) (i := 0) dX5_seat_60 rfl rfl ?_
        refine wp_gfr (pc := 61) fk_X5_39 dX5_seat_61 s0 rfl (by omega) ?_
        refine wp_iload_n (pc := 64) (i := 2) dX5_seat_64 rfl rfl ?_
        first | (with_reducible show WP _ _ _ _ _ _ (Value.int (nI _) :: _) _; refine wp_ialdN (pc := 65) dX5_seat_65 s10 (by omega) (by first | with_reducible assumption | with_reducible exact hs_same _ _ _ _ | with_reducible exact r1 _ (by omega) | rfl) ?_) | refine wp_iald (pc := 65) dX5_seat_65 s10 (by assumption) rfl ?_
        refine wp_dup2 (pc := 66) dX5_seat_66 rfl rfl ?_
        first | (with_reducible show WP _ _ _ _ _ _ (Value.int (nI _) :: _) _; refine wp_ialdN (pc := 67) dX5_seat_67 s11 (by omega) (by first | with_reducible assumption | with_reducible exact hs_same _ _ _ _ | with_reducible exact r1 _ (by omega) | rfl) ?_) | refine wp_iald (pc := 67) dX5_seat_67 s11 (by assumption) rfl ?_
        refine wp_iconst (pc := 68) (v := nI 1) dX5_seat_68 rfl ?_
        refine wp_iload_n (pc := 69) (i := 2) dX5_seat_69 rfl rfl ?_
        first | (with_reducible show WP _ _ _ _ _ _ (Value.int (nI _) :: Value.int (nI _) :: _) _; refine wp_ishlN (pc := 70) dX5_seat_70 (by omega) ?_) | refine wp_ishl (pc := 70) dX5_seat_70 ?_
        first | (with_reducible show WP _ _ _ _ _ _ (Value.int (nI _) :: Value.int (nI _) :: _) _; refine wp_iorN (pc := 71) dX5_seat_71 ?_) | refine wp_ior (pc := 71) dX5_seat_71 ?_
        first | (with_reducible show WP _ _ _ _ _ _ (_ :: Value.int (nI _) :: _) _; refine wp_iastN (pc := 72) dX5_seat_72 s11 (by omega) ?_) | refine wp_iast (pc := 72) dX5_seat_72 s11 (by assumption) rfl ?_
        first | refine wp_iincN (pc := 73) (i := 2) (n := 1) dX5_seat_73 rfl rfl (by decide) rfl ?_ | refine wp_iinc (pc := 73) (i := 2) dX5_seat_73 rfl rfl rfl (by decide) rfl ?_
        dsimp only [List.set_cons_zero, List.set_cons_succ]
        refine wp_goto (pc := 76) (tgt := 25) dX5_seat_76 (by decide) ?_
        rotate_left
        · exact absurd c30 (by omega)
        · exact absurd c53 (nI_none (by omega))
        · refine ih (i + 1) _ (by omega) (fun a a1 a2 => by rw [hs_ne a2, hs_ne a1]; exact hF a a1 a2) (fun g hg => ?_) (fun c' hc' => ?_)
          · rw [hs_ne (by omega)]
            by_cases q : g = i
            · subst q; rw [hs_same, hw]; rfl
            · rw [hs_ix q]; exact hH g (by omega)
          · by_cases q : c' = c
            · subst q; rw [hs_same, gu, hw, if_pos rfl, Nat.one_mul]
            · rw [hs_ix q, r1 c' hc', gu, hw, if_neg (fun z => q (Option.some.inj z).symm), Nat.or_zero]
  have loop1 : ∀ m i h1, i + m = T 0 → (∀ a, a ≠ t + 10 → a ≠ t + 11 → h1 a = h a) → (∀ c, c < i → h1 (t + 11) c = nI 0) → WP G (d + 1) mX5_seat (pV K) 2 [some (.ref t), some (.int (nI n)), some (.int (nI i))] [] h1 := by
    intro m
    induction m with
    | zero =>
      intro i h1 him hF hG
      have hW1 := hW.cg hF
      obtain ⟨e0, e1, e2, e3, e4, e5, e6, e7, e8, e9, e10, e11, e12, e13⟩ := id hW1
      refine wp_iload_n (pc := 2) (i := 2) dX5_seat_2 rfl rfl ?_
      refine wp_aload_n (pc := 3) (i := 0) dX5_seat_3 rfl rfl ?_
      refine wp_gfv (pc := 4) fk_X5_45 dX5_seat_4 s0 rfl (by first | with_reducible assumption | with_reducible exact hs_same _ _ _ _ | rfl) ?_
      first | (with_reducible show WP _ _ _ _ _ _ (Value.int (nI _) :: Value.int (nI _) :: _) _; refine wp_icmp_geN (pc := 7) (tgt := 23) dX5_seat_7 (by decide) (by omega) (by omega) (fun c7 => ?_) (fun c7 => ?_)) | refine wp_icmp_ge (pc := 7) (tgt := 23) dX5_seat_7 (by decide) (fun c7 => ?_) (fun c7 => ?_)
      refine wp_iconst (pc := 23) (v := nI 0) dX5_seat_23 rfl ?_
      refine wp_istore_n (pc := 24) (i := 2) dX5_seat_24 rfl rfl (by decide) rfl ?_
      dsimp only [List.set_cons_zero, List.set_cons_succ]
      rotate_left
      rotate_left
      · exact loop2 (T 1) 0 h1 (by omega) hF (fun g hg => absurd hg (by omega)) (fun c hc => hG c (by omega))
      · exact absurd him (by omega)
    | succ m ih =>
      intro i h1 him hF hG
      have hW1 := hW.cg hF
      obtain ⟨e0, e1, e2, e3, e4, e5, e6, e7, e8, e9, e10, e11, e12, e13⟩ := id hW1
      refine wp_iload_n (pc := 2) (i := 2) dX5_seat_2 rfl rfl ?_
      refine wp_aload_n (pc := 3) (i := 0) dX5_seat_3 rfl rfl ?_
      refine wp_gfv (pc := 4) fk_X5_45 dX5_seat_4 s0 rfl (by first | with_reducible assumption | with_reducible exact hs_same _ _ _ _ | rfl) ?_
      first | (with_reducible show WP _ _ _ _ _ _ (Value.int (nI _) :: Value.int (nI _) :: _) _; refine wp_icmp_geN (pc := 7) (tgt := 23) dX5_seat_7 (by decide) (by omega) (by omega) (fun c7 => ?_) (fun c7 => ?_)) | refine wp_icmp_ge (pc := 7) (tgt := 23) dX5_seat_7 (by decide) (fun c7 => ?_) (fun c7 => ?_)
      rotate_left
      refine wp_aload_n (pc := 10) (i := 0) dX5_seat_10 rfl rfl ?_
      refine wp_gfr (pc := 11) fk_X5_42 dX5_seat_11 s0 rfl (by omega) ?_
      refine wp_iload_n (pc := 14) (i := 2) dX5_seat_14 rfl rfl ?_
      refine wp_iconst (pc := 15) (v := nI 0) dX5_seat_15 rfl ?_
      first | (with_reducible show WP _ _ _ _ _ _ (_ :: Value.int (nI _) :: _) _; refine wp_iastN (pc := 16) dX5_seat_16 s11 (by omega) ?_) | refine wp_iast (pc := 16) dX5_seat_16 s11 (by assumption) rfl ?_
      first | refine wp_iincN (pc := 17) (i := 2) (n := 1) dX5_seat_17 rfl rfl (by decide) rfl ?_ | refine wp_iinc (pc := 17) (i := 2) dX5_seat_17 rfl rfl rfl (by decide) rfl ?_
      dsimp only [List.set_cons_zero, List.set_cons_succ]
      refine wp_goto (pc := 20) (tgt := 2) dX5_seat_20 (by decide) ?_
      rotate_left
      · exact absurd c7 (by omega)
      · refine ih (i + 1) _ (by omega) (fun a a1 a2 => by rw [hs_ne a2]; exact hF a a1 a2) (fun c hc => ?_)
        by_cases q : c = i
        · subst q; rw [hs_same]
        · rw [hs_ix q]; exact hG c (by omega)
  refine Call.of (M := mX5_seat) (n := 1) (by decide +kernel) rfl ?_
  show WP _ _ _ _ 0 [some (.ref t), some (.int (nI n)), none] [] _
  refine wp_iconst (pc := 0) (v := nI 0) dX5_seat_0 rfl ?_
  refine wp_istore_n (pc := 1) (i := 2) dX5_seat_1 rfl rfl (by decide) rfl ?_
  dsimp only [List.set_cons_zero, List.set_cons_succ]
  rotate_left
  exact loop1 (T 0) 0 h (by omega) (fun _ _ _ => rfl) (fun c hc => absurd hc (by omega))
end TOWN
