section LONGS
variable {G : Gt} {d : Nat} {M : Mt} {Q : Option Value → Hp → Prop} {pc : Nat} {L : List (Option Value)} {S : List Value} {h : Hp}
theorem wp_lmulN {a b : Nat} (hd : decode M.2.1 pc = .ok (.lmul, 1)) (k : WP G d M Q (pc + 1) L (.long (lN (a * b)) :: S) h) : WP G d M Q pc L (.long (lN b) :: .long (lN a) :: S) h := wp_lmul hd (by rw [lN_mul]; exact k)
theorem wp_laddN {a b : Nat} (hd : decode M.2.1 pc = .ok (.ladd, 1)) (k : WP G d M Q (pc + 1) L (.long (lN (a + b)) :: S) h) : WP G d M Q pc L (.long (lN b) :: .long (lN a) :: S) h := wp_ladd hd (by rw [lN_add]; exact k)
theorem lN_ne0 {b : Nat} (h0 : 0 < b) (hb : b < 2 ^ 63) : ¬ lN b = 0 := fun e => by
  have := (pk_lEQ (a := b) (b := 0) hb (by decide)).mp e
  omega
theorem wp_lremN {a b : Nat} (hd : decode M.2.1 pc = .ok (.lrem, 1)) (ha : a < 2 ^ 63) (h0 : 0 < b) (hb : b < 2 ^ 63) (k : WP G d M Q (pc + 1) L (.long (lN (a % b)) :: S) h) : WP G d M Q pc L (.long (lN b) :: .long (lN a) :: S) h := wp_lrem hd (lN_ne0 h0 hb) (by rw [pk_lRem ha h0 hb]; exact k)
theorem wp_ldivN {a b : Nat} (hd : decode M.2.1 pc = .ok (.ldiv, 1)) (ha : a < 2 ^ 63) (h0 : 0 < b) (hb : b < 2 ^ 63) (k : WP G d M Q (pc + 1) L (.long (lN (a / b)) :: S) h) : WP G d M Q pc L (.long (lN b) :: .long (lN a) :: S) h := wp_ldiv hd (lN_ne0 h0 hb) (by rw [pk_lDiv ha h0 hb]; exact k)
theorem wp_l2iN {a : Nat} (hd : decode M.2.1 pc = .ok (.l2i, 1)) (k : WP G d M Q (pc + 1) L (.int (nI a) :: S) h) : WP G d M Q pc L (.long (lN a) :: S) h := wp_l2i hd (lN_i a) k
end LONGS
