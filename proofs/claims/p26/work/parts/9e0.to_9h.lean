/-! acts on pairs: both sides -/
theorem bz_setp {τ ad : Nat → Nat} {w u : Wd} {o : Nat} {bs ss : Nat → Int} {pb pb2 : Nat → PT} {P Q : Nat → Nat} {ct : Nat → Int} (hp : ∀ j, j < 3 → pb2 j = pb j) (hC : CS τ ad u bs ss pb2 P Q ct) (hk : KO τ w u) (ho : τ o = 199) (e : WdE) : BZ τ ad o w (wset u o e) bs ss pb P Q ct := ⟨⟨pb2, hp, hC.out ho e⟩, hk.km.out ho e⟩
def ACD (pb : Nat → PT) (ct : Nat → Int) (t : Nat) (D : PT) (c : Prop) (nv : Int) (pb1 : Nat → PT) (ct1 : Nat → Int) : Prop := (¬ c ∧ nv = -9 ∧ pb1 = pb ∧ ct1 = iup ct 3 (ct 3 + 1)) ∨ (c ∧ nv = bI (¬ pb t = D) ∧ pb1 = pup pb t D ∧ ct1 = iup ct 1 (ct 1 + 1))
theorem act_d {τ ad : Nat → Nat} {w' : Wd} {bs ss : Nat → Int} {pb : Nat → PT} {P Q : Nat → Nat} {ct : Nat → Int} {t : Nat} {D : PT} {c : Prop} {zz : Int} (h : ACTP τ ad w' bs ss pb P Q ct t D c (some (iI zz))) (hz : -2147483648 ≤ zz ∧ zz < 2147483648) : ∃ (pb1 : Nat → PT) (ct1 : Nat → Int), ACD pb ct t D c zz pb1 ct1 ∧ ∃ pb2 : Nat → PT, (∀ j, j < 3 → pb2 j = pb1 j) ∧ CS τ ad w' bs ss pb2 P Q ct1 := by
  rcases h with ⟨h1, h2, pb2, h3, h4⟩ | ⟨h1, h2, pb2, h3, h4⟩
  · exact ⟨pb, _, Or.inl ⟨h1, iI_inj (Option.some.inj h2) hz (by omega), rfl, rfl⟩, pb2, h3, h4⟩
  · exact ⟨_, _, Or.inr ⟨h1, iI_inj (Option.some.inj h2) hz (by have := bI_01 (¬ pb t = D); omega), rfl, rfl⟩, pb2, h3, h4⟩
theorem act_b {bs ss ba st pm le ri ct cm : Nat → Int} {pb : Nat → PT} {P Q : Nat → Nat} {sp : Nat → Nat → Int} (hr : RLx bs ss pb P Q ct ba st pm le ri sp cm) {T : Nat} (hT : T < 3) {D : PT} {c : Prop} {nv ans : Int} {pb1 : Nat → PT} {ct1 : Nat → Int} (hA : ACD pb ct T D c nv pb1 ct1) {b x y : Int} {pm' le' ri' cm' : Nat → Int} {c' : Prop} (hD : c → D = (b, x, y)) (hc : c ↔ c')
    (hm : (¬ c' ∧ ans = -9 ∧ pm' = pm ∧ le' = le ∧ ri' = ri ∧ cm' = iup cm 3 (cm 3 + 1)) ∨ (c' ∧ ans = bI (¬ (pm T = b ∧ le T = x ∧ ri T = y)) ∧ pm' = iup pm T b ∧ le' = iup le T x ∧ ri' = iup ri T y ∧ cm' = iup cm 1 (cm 1 + 1))) : RLx bs ss pb1 P Q ct1 ba st pm' le' ri' sp cm' ∧ nv = ans := by
  have h4 := hr.2.2
  rcases hA with ⟨n, e, a1, a2⟩ | ⟨n, e, a1, a2⟩
  · rcases hm with ⟨-, e', c1, c2, c3, c4⟩ | ⟨n', -⟩
    · subst a1 a2 c1 c2 c3 c4
      exact ⟨rl_c hr (ctu h4 (by omega)), e.trans e'.symm⟩
    · exact (n (hc.mpr n')).elim
  · rcases hm with ⟨n', -⟩ | ⟨-, e', c1, c2, c3, c4⟩
    · exact (n' (hc.mp n)).elim
    · have hD := hD n
      subst a1 a2 c1 c2 c3 c4 hD
      refine ⟨⟨hr.1, fun j hj => ?_, ctu h4 (by omega)⟩, ?_⟩
      · by_cases q : j = T
        · subst q; rw [pup_s, iup_s, iup_s, iup_s]
        · rw [pup_n q, iup_n q, iup_n q, iup_n q]; exact hr.2.1 j hj
      · rw [e, e', hr.2.1 T hT]
        have hiff : ((pm T, le T, ri T) : PT) = (b, x, y) ↔ pm T = b ∧ le T = x ∧ ri T = y := ⟨fun q => ⟨congrArg (fun z : PT => z.1) q, congrArg (fun z : PT => z.2.1) q, congrArg (fun z : PT => z.2.2) q⟩, fun q => by rw [q.1, q.2.1, q.2.2]⟩
        by_cases q : ((pm T, le T, ri T) : PT) = (b, x, y)
        · rw [bI_f (fun z => z q), bI_f (fun z => z (hiff.mp q))]
        · rw [bI_t q, bI_t (show ¬ (pm T = b ∧ le T = x ∧ ri T = y) from fun z => q (hiff.mpr z))]
theorem rl_pb {bs ss ba st pm le ri ct cm : Nat → Int} {pb pb2 : Nat → PT} {P Q : Nat → Nat} {sp : Nat → Nat → Int} (hp : ∀ j, j < 3 → pb2 j = pb j) (hr : RLx bs ss pb P Q ct ba st pm le ri sp cm) : RLx bs ss pb2 P Q ct ba st pm le ri sp cm := ⟨hr.1, fun i hi => (hp i hi).trans (hr.2.1 i hi), hr.2.2⟩
theorem hp_sm {pm le ri : Nat → Int} {T : Nat} (hT : T < 3) {b x y : Int} (h : HPp (iup pm T b) (iup le T x) (iup ri T y)) : sm (b, x, y) := by
  have := h T hT
  rw [iup_s, iup_s, iup_s] at this
  exact fun q => q.elim this.2.1 this.2.2
def D_put (vi b x y : Int) (pb : Nat → PT) (ct : Nat → Int) (k nv : Int) (pb1 : Nat → PT) (ct1 : Nat → Int) : Prop := (¬ (0 ≤ vi ∧ vi ≤ 2) ∧ k = 1 ∧ pb1 = pb ∧ ct1 = ct) ∨ ((0 ≤ vi ∧ vi ≤ 2) ∧ ¬ (GB b ∧ (-1000 ≤ x ∧ x ≤ 1000) ∧ (-1000 ≤ y ∧ y ≤ 1000)) ∧ k = 2 ∧ pb1 = pb ∧ ct1 = ct) ∨ ((0 ≤ vi ∧ vi ≤ 2) ∧ (GB b ∧ (-1000 ≤ x ∧ x ≤ 1000) ∧ (-1000 ≤ y ∧ y ≤ 1000)) ∧ k = 0 ∧ ∃ D : PT, (D = (b, x, y)) ∧ ACD pb ct vi.toNat D (sm D) nv pb1 ct1)
set_option maxHeartbeats 1000000 in
theorem a_put {τ ad : Nat → Nat} {w w' : Wd} {o : Nat} {bs ss : Nat → Int} {pb : Nat → PT} {P Q : Nat → Nat} {ct : Nat → Int} (hC : CS τ ad w bs ss pb P Q ct) (ho : τ o = 199) (hO : OU w o) {vi b x y : Int} {r' : Option Value} (h : (¬ ((0 ≤ vi ∧ vi ≤ 2)) ∧ r' = some (iI 1) ∧ w.1 ≤ w'.1 ∧ w'.2 = w.2) ∨ (((0 ≤ vi ∧ vi ≤ 2)) ∧ ¬ (GB b ∧ (-1000 ≤ x ∧ x ≤ 1000) ∧ (-1000 ≤ y ∧ y ≤ 1000)) ∧ r' = some (iI 2) ∧ w.1 ≤ w'.1 ∧ w'.2 = w.2) ∨ (((0 ≤ vi ∧ vi ≤ 2)) ∧ (GB b ∧ (-1000 ≤ x ∧ x ≤ 1000) ∧ (-1000 ≤ y ∧ y ≤ 1000)) ∧ r' = some (iI 0) ∧ ∃ (i : Nat), vi = (i : Int) ∧ ∃ (zz : Int) (uu : Wd) (sv : Value), (-2147483648 ≤ zz ∧ zz < 2147483648) ∧ (∃ D : PT, (D = (b, x, y)) ∧ ACTP τ ad uu bs ss pb P Q ct i D (sm D) (some (iI zz)) ∧ KO τ w uu) ∧ w' = wset uu o (true, eO 9 [jJ zz, sv]))) : ∃ (k nv : Int) (pb1 : Nat → PT) (ct1 : Nat → Int), r' = some (iI k) ∧ OV w' o nv ∧ (k = 0 → -2147483648 ≤ nv ∧ nv < 2147483648) ∧ BZ τ ad o w w' bs ss pb1 P Q ct1 ∧ D_put vi b x y pb ct k nv pb1 ct1 := by
  obtain ⟨n0, s0, hO⟩ := hO
  rcases h with h | h | h
  · obtain ⟨hb, rfl, h1, h2⟩ := h
    exact ⟨1, n0, _, _, rfl, ⟨s0, by rw [h2]; exact hO⟩, fun h => absurd h (by omega), bz_same hC h1 h2, Or.inl ⟨hb, rfl, rfl, rfl⟩⟩
  · obtain ⟨hg, hb, rfl, h1, h2⟩ := h
    exact ⟨2, n0, _, _, rfl, ⟨s0, by rw [h2]; exact hO⟩, fun h => absurd h (by omega), bz_same hC h1 h2, Or.inr (Or.inl ⟨hg, hb, rfl, rfl, rfl⟩)⟩
  · obtain ⟨hg, hb, rfl, i, rfl, zz, uu, sv, hz, ⟨D, hd, hact, hk2⟩, rfl⟩ := h
    obtain ⟨pb1, ct1, hA, pb2, hp2, hC2⟩ := act_d hact hz
    exact ⟨0, zz, _, _, rfl, ⟨sv, wset_s⟩, fun _ => hz, bz_setp hp2 hC2 hk2 ho _, Or.inr (Or.inr ⟨hg, hb, rfl, D, hd, hA⟩)⟩
def D_take (vi vk : Int) (bs ss : Nat → Int) (pb : Nat → PT) (ct : Nat → Int) (k nv : Int) (pb1 : Nat → PT) (ct1 : Nat → Int) : Prop := (¬ ((0 ≤ vi ∧ vi ≤ 2) ∧ (0 ≤ vk ∧ vk ≤ 2)) ∧ k = 1 ∧ pb1 = pb ∧ ct1 = ct) ∨ (((0 ≤ vi ∧ vi ≤ 2) ∧ (0 ≤ vk ∧ vk ≤ 2)) ∧ k = 0 ∧ ∃ D : PT, (∃ r, RT (bs vi.toNat) r ∧ D = (bs vi.toNat, (pq (bs vi.toNat) r 1 r (ss vi.toNat).toNat).1, (pq (bs vi.toNat) r 0 1 (ss vi.toNat).toNat).1)) ∧ ACD pb ct vk.toNat D (sm D) nv pb1 ct1)
set_option maxHeartbeats 1000000 in
theorem a_take {τ ad : Nat → Nat} {w w' : Wd} {o : Nat} {bs ss : Nat → Int} {pb : Nat → PT} {P Q : Nat → Nat} {ct : Nat → Int} (hC : CS τ ad w bs ss pb P Q ct) (ho : τ o = 199) (hO : OU w o) {vi vk : Int} {r' : Option Value} (h : (¬ ((0 ≤ vi ∧ vi ≤ 2) ∧ (0 ≤ vk ∧ vk ≤ 2)) ∧ r' = some (iI 1) ∧ w.1 ≤ w'.1 ∧ w'.2 = w.2) ∨ (((0 ≤ vi ∧ vi ≤ 2) ∧ (0 ≤ vk ∧ vk ≤ 2)) ∧ r' = some (iI 0) ∧ ∃ (i : Nat) (k : Nat), vi = (i : Int) ∧ vk = (k : Int) ∧ ∃ (zz : Int) (uu : Wd) (sv : Value), (-2147483648 ≤ zz ∧ zz < 2147483648) ∧ (∃ D : PT, (∃ r, RT (bs i) r ∧ D = (bs i, (pq (bs i) r 1 r (ss i).toNat).1, (pq (bs i) r 0 1 (ss i).toNat).1)) ∧ ACTP τ ad uu bs ss pb P Q ct k D (sm D) (some (iI zz)) ∧ KO τ w uu) ∧ w' = wset uu o (true, eO 9 [jJ zz, sv]))) : ∃ (k nv : Int) (pb1 : Nat → PT) (ct1 : Nat → Int), r' = some (iI k) ∧ OV w' o nv ∧ (k = 0 → -2147483648 ≤ nv ∧ nv < 2147483648) ∧ BZ τ ad o w w' bs ss pb1 P Q ct1 ∧ D_take vi vk bs ss pb ct k nv pb1 ct1 := by
  obtain ⟨n0, s0, hO⟩ := hO
  rcases h with h | h
  · obtain ⟨hb, rfl, h1, h2⟩ := h
    exact ⟨1, n0, _, _, rfl, ⟨s0, by rw [h2]; exact hO⟩, fun h => absurd h (by omega), bz_same hC h1 h2, Or.inl ⟨hb, rfl, rfl, rfl⟩⟩
  · obtain ⟨hg, rfl, i, k, rfl, rfl, zz, uu, sv, hz, ⟨D, hd, hact, hk2⟩, rfl⟩ := h
    obtain ⟨pb1, ct1, hA, pb2, hp2, hC2⟩ := act_d hact hz
    exact ⟨0, zz, _, _, rfl, ⟨sv, wset_s⟩, fun _ => hz, bz_setp hp2 hC2 hk2 ho _, Or.inr (⟨hg, rfl, D, hd, hA⟩)⟩
def D_least (vi b : Int) (pb : Nat → PT) (ct : Nat → Int) (k nv : Int) (pb1 : Nat → PT) (ct1 : Nat → Int) : Prop := (¬ (0 ≤ vi ∧ vi ≤ 2) ∧ k = 1 ∧ pb1 = pb ∧ ct1 = ct) ∨ ((0 ≤ vi ∧ vi ≤ 2) ∧ ¬ GB b ∧ k = 2 ∧ pb1 = pb ∧ ct1 = ct) ∨ ((0 ≤ vi ∧ vi ≤ 2) ∧ GB b ∧ k = 0 ∧ ∃ D : PT, (∃ r, RT b r ∧ D = (b, leaP b r, leaQ b r)) ∧ ACD pb ct vi.toNat D (sm D) nv pb1 ct1)
set_option maxHeartbeats 1000000 in
theorem a_least {τ ad : Nat → Nat} {w w' : Wd} {o : Nat} {bs ss : Nat → Int} {pb : Nat → PT} {P Q : Nat → Nat} {ct : Nat → Int} (hC : CS τ ad w bs ss pb P Q ct) (ho : τ o = 199) (hO : OU w o) {vi b : Int} {r' : Option Value} (h : (¬ ((0 ≤ vi ∧ vi ≤ 2)) ∧ r' = some (iI 1) ∧ w.1 ≤ w'.1 ∧ w'.2 = w.2) ∨ (((0 ≤ vi ∧ vi ≤ 2)) ∧ ¬ (GB b) ∧ r' = some (iI 2) ∧ w.1 ≤ w'.1 ∧ w'.2 = w.2) ∨ (((0 ≤ vi ∧ vi ≤ 2)) ∧ (GB b) ∧ r' = some (iI 0) ∧ ∃ (i : Nat), vi = (i : Int) ∧ ∃ (zz : Int) (uu : Wd) (sv : Value), (-2147483648 ≤ zz ∧ zz < 2147483648) ∧ (∃ D : PT, (∃ r, RT b r ∧ D = (b, leaP b r, leaQ b r)) ∧ ACTP τ ad uu bs ss pb P Q ct i D (sm D) (some (iI zz)) ∧ KO τ w uu) ∧ w' = wset uu o (true, eO 9 [jJ zz, sv]))) : ∃ (k nv : Int) (pb1 : Nat → PT) (ct1 : Nat → Int), r' = some (iI k) ∧ OV w' o nv ∧ (k = 0 → -2147483648 ≤ nv ∧ nv < 2147483648) ∧ BZ τ ad o w w' bs ss pb1 P Q ct1 ∧ D_least vi b pb ct k nv pb1 ct1 := by
  obtain ⟨n0, s0, hO⟩ := hO
  rcases h with h | h | h
  · obtain ⟨hb, rfl, h1, h2⟩ := h
    exact ⟨1, n0, _, _, rfl, ⟨s0, by rw [h2]; exact hO⟩, fun h => absurd h (by omega), bz_same hC h1 h2, Or.inl ⟨hb, rfl, rfl, rfl⟩⟩
  · obtain ⟨hg, hb, rfl, h1, h2⟩ := h
    exact ⟨2, n0, _, _, rfl, ⟨s0, by rw [h2]; exact hO⟩, fun h => absurd h (by omega), bz_same hC h1 h2, Or.inr (Or.inl ⟨hg, hb, rfl, rfl, rfl⟩)⟩
  · obtain ⟨hg, hb, rfl, i, rfl, zz, uu, sv, hz, ⟨D, hd, hact, hk2⟩, rfl⟩ := h
    obtain ⟨pb1, ct1, hA, pb2, hp2, hC2⟩ := act_d hact hz
    exact ⟨0, zz, _, _, rfl, ⟨sv, wset_s⟩, fun _ => hz, bz_setp hp2 hC2 hk2 ho _, Or.inr (Or.inr ⟨hg, hb, rfl, D, hd, hA⟩)⟩
def D_compose (vi vk vn : Int) (pb : Nat → PT) (ct : Nat → Int) (k nv : Int) (pb1 : Nat → PT) (ct1 : Nat → Int) : Prop := (¬ ((0 ≤ vi ∧ vi ≤ 2) ∧ (0 ≤ vk ∧ vk ≤ 2) ∧ (0 ≤ vn ∧ vn ≤ 2)) ∧ k = 1 ∧ pb1 = pb ∧ ct1 = ct) ∨ (((0 ≤ vi ∧ vi ≤ 2) ∧ (0 ≤ vk ∧ vk ≤ 2) ∧ (0 ≤ vn ∧ vn ≤ 2)) ∧ k = 0 ∧ ∃ D : PT, (D = mulP (pb vi.toNat) (pb vk.toNat)) ∧ ACD pb ct vn.toNat D ((pb vi.toNat).1 = (pb vk.toNat).1 ∧ sm D) nv pb1 ct1)
set_option maxHeartbeats 1000000 in
theorem a_compose {τ ad : Nat → Nat} {w w' : Wd} {o : Nat} {bs ss : Nat → Int} {pb : Nat → PT} {P Q : Nat → Nat} {ct : Nat → Int} (hC : CS τ ad w bs ss pb P Q ct) (ho : τ o = 199) (hO : OU w o) {vi vk vn : Int} {r' : Option Value} (h : (¬ ((0 ≤ vi ∧ vi ≤ 2) ∧ (0 ≤ vk ∧ vk ≤ 2) ∧ (0 ≤ vn ∧ vn ≤ 2)) ∧ r' = some (iI 1) ∧ w.1 ≤ w'.1 ∧ w'.2 = w.2) ∨ (((0 ≤ vi ∧ vi ≤ 2) ∧ (0 ≤ vk ∧ vk ≤ 2) ∧ (0 ≤ vn ∧ vn ≤ 2)) ∧ r' = some (iI 0) ∧ ∃ (i : Nat) (k : Nat) (n : Nat), vi = (i : Int) ∧ vk = (k : Int) ∧ vn = (n : Int) ∧ ∃ (zz : Int) (uu : Wd) (sv : Value), (-2147483648 ≤ zz ∧ zz < 2147483648) ∧ (∃ D : PT, (D = mulP (pb i) (pb k)) ∧ ACTP τ ad uu bs ss pb P Q ct n D ((pb i).1 = (pb k).1 ∧ sm D) (some (iI zz)) ∧ KO τ w uu) ∧ w' = wset uu o (true, eO 9 [jJ zz, sv]))) : ∃ (k nv : Int) (pb1 : Nat → PT) (ct1 : Nat → Int), r' = some (iI k) ∧ OV w' o nv ∧ (k = 0 → -2147483648 ≤ nv ∧ nv < 2147483648) ∧ BZ τ ad o w w' bs ss pb1 P Q ct1 ∧ D_compose vi vk vn pb ct k nv pb1 ct1 := by
  obtain ⟨n0, s0, hO⟩ := hO
  rcases h with h | h
  · obtain ⟨hb, rfl, h1, h2⟩ := h
    exact ⟨1, n0, _, _, rfl, ⟨s0, by rw [h2]; exact hO⟩, fun h => absurd h (by omega), bz_same hC h1 h2, Or.inl ⟨hb, rfl, rfl, rfl⟩⟩
  · obtain ⟨hg, rfl, i, k, n, rfl, rfl, rfl, zz, uu, sv, hz, ⟨D, hd, hact, hk2⟩, rfl⟩ := h
    obtain ⟨pb1, ct1, hA, pb2, hp2, hC2⟩ := act_d hact hz
    exact ⟨0, zz, _, _, rfl, ⟨sv, wset_s⟩, fun _ => hz, bz_setp hp2 hC2 hk2 ho _, Or.inr (⟨hg, rfl, D, hd, hA⟩)⟩
def D_power (vi vz : Int) (pb : Nat → PT) (ct : Nat → Int) (k nv : Int) (pb1 : Nat → PT) (ct1 : Nat → Int) : Prop := (¬ (0 ≤ vi ∧ vi ≤ 2) ∧ k = 1 ∧ pb1 = pb ∧ ct1 = ct) ∨ ((0 ≤ vi ∧ vi ≤ 2) ∧ ¬ (0 ≤ vz ∧ vz ≤ 5) ∧ k = 2 ∧ pb1 = pb ∧ ct1 = ct) ∨ ((0 ≤ vi ∧ vi ≤ 2) ∧ (0 ≤ vz ∧ vz ≤ 5) ∧ k = 0 ∧ ∃ D : PT, (D = powT (pb vi.toNat) vz.toNat) ∧ ACD pb ct vi.toNat D (sm D) nv pb1 ct1)
set_option maxHeartbeats 1000000 in
theorem a_power {τ ad : Nat → Nat} {w w' : Wd} {o : Nat} {bs ss : Nat → Int} {pb : Nat → PT} {P Q : Nat → Nat} {ct : Nat → Int} (hC : CS τ ad w bs ss pb P Q ct) (ho : τ o = 199) (hO : OU w o) {vi vz : Int} {r' : Option Value} (h : (¬ ((0 ≤ vi ∧ vi ≤ 2)) ∧ r' = some (iI 1) ∧ w.1 ≤ w'.1 ∧ w'.2 = w.2) ∨ (((0 ≤ vi ∧ vi ≤ 2)) ∧ ¬ ((0 ≤ vz ∧ vz ≤ 5)) ∧ r' = some (iI 2) ∧ w.1 ≤ w'.1 ∧ w'.2 = w.2) ∨ (((0 ≤ vi ∧ vi ≤ 2)) ∧ ((0 ≤ vz ∧ vz ≤ 5)) ∧ r' = some (iI 0) ∧ ∃ (i : Nat) (z : Nat), vi = (i : Int) ∧ vz = (z : Int) ∧ ∃ (zz : Int) (uu : Wd) (sv : Value), (-2147483648 ≤ zz ∧ zz < 2147483648) ∧ (∃ D : PT, (D = powT (pb i) z) ∧ ACTP τ ad uu bs ss pb P Q ct i D (sm D) (some (iI zz)) ∧ KO τ w uu) ∧ w' = wset uu o (true, eO 9 [jJ zz, sv]))) : ∃ (k nv : Int) (pb1 : Nat → PT) (ct1 : Nat → Int), r' = some (iI k) ∧ OV w' o nv ∧ (k = 0 → -2147483648 ≤ nv ∧ nv < 2147483648) ∧ BZ τ ad o w w' bs ss pb1 P Q ct1 ∧ D_power vi vz pb ct k nv pb1 ct1 := by
  obtain ⟨n0, s0, hO⟩ := hO
  rcases h with h | h | h
  · obtain ⟨hb, rfl, h1, h2⟩ := h
    exact ⟨1, n0, _, _, rfl, ⟨s0, by rw [h2]; exact hO⟩, fun h => absurd h (by omega), bz_same hC h1 h2, Or.inl ⟨hb, rfl, rfl, rfl⟩⟩
  · obtain ⟨hg, hb, rfl, h1, h2⟩ := h
    exact ⟨2, n0, _, _, rfl, ⟨s0, by rw [h2]; exact hO⟩, fun h => absurd h (by omega), bz_same hC h1 h2, Or.inr (Or.inl ⟨hg, hb, rfl, rfl, rfl⟩)⟩
  · obtain ⟨hg, hb, rfl, i, z, rfl, rfl, zz, uu, sv, hz, ⟨D, hd, hact, hk2⟩, rfl⟩ := h
    obtain ⟨pb1, ct1, hA, pb2, hp2, hC2⟩ := act_d hact hz
    exact ⟨0, zz, _, _, rfl, ⟨sv, wset_s⟩, fun _ => hz, bz_setp hp2 hC2 hk2 ho _, Or.inr (Or.inr ⟨hg, hb, rfl, D, hd, hA⟩)⟩
def D_mirror (vi y : Int) (pb : Nat → PT) (ct : Nat → Int) (k nv : Int) (pb1 : Nat → PT) (ct1 : Nat → Int) : Prop := (¬ (0 ≤ vi ∧ vi ≤ 2) ∧ k = 1 ∧ pb1 = pb ∧ ct1 = ct) ∨ ((0 ≤ vi ∧ vi ≤ 2) ∧ k = 0 ∧ ∃ D : PT, (∃ v : Int, (y = 1 ∧ v = -(pb vi.toNat).2.1 ∨ y = 0 ∧ v = (pb vi.toNat).2.1) ∧ D = ((pb vi.toNat).1, v, -(pb vi.toNat).2.2)) ∧ ACD pb ct vi.toNat D (sm D) nv pb1 ct1)
set_option maxHeartbeats 1000000 in
theorem a_mirror {τ ad : Nat → Nat} {w w' : Wd} {o : Nat} {bs ss : Nat → Int} {pb : Nat → PT} {P Q : Nat → Nat} {ct : Nat → Int} (hC : CS τ ad w bs ss pb P Q ct) (ho : τ o = 199) (hO : OU w o) {vi y : Int} {r' : Option Value} (h : (¬ ((0 ≤ vi ∧ vi ≤ 2)) ∧ r' = some (iI 1) ∧ w.1 ≤ w'.1 ∧ w'.2 = w.2) ∨ (((0 ≤ vi ∧ vi ≤ 2)) ∧ r' = some (iI 0) ∧ ∃ (i : Nat), vi = (i : Int) ∧ ∃ (zz : Int) (uu : Wd) (sv : Value), (-2147483648 ≤ zz ∧ zz < 2147483648) ∧ (∃ D : PT, (∃ v : Int, (y = 1 ∧ v = -(pb i).2.1 ∨ y = 0 ∧ v = (pb i).2.1) ∧ D = ((pb i).1, v, -(pb i).2.2)) ∧ ACTP τ ad uu bs ss pb P Q ct i D (sm D) (some (iI zz)) ∧ KO τ w uu) ∧ w' = wset uu o (true, eO 9 [jJ zz, sv]))) : ∃ (k nv : Int) (pb1 : Nat → PT) (ct1 : Nat → Int), r' = some (iI k) ∧ OV w' o nv ∧ (k = 0 → -2147483648 ≤ nv ∧ nv < 2147483648) ∧ BZ τ ad o w w' bs ss pb1 P Q ct1 ∧ D_mirror vi y pb ct k nv pb1 ct1 := by
  obtain ⟨n0, s0, hO⟩ := hO
  rcases h with h | h
  · obtain ⟨hb, rfl, h1, h2⟩ := h
    exact ⟨1, n0, _, _, rfl, ⟨s0, by rw [h2]; exact hO⟩, fun h => absurd h (by omega), bz_same hC h1 h2, Or.inl ⟨hb, rfl, rfl, rfl⟩⟩
  · obtain ⟨hg, rfl, i, rfl, zz, uu, sv, hz, ⟨D, hd, hact, hk2⟩, rfl⟩ := h
    obtain ⟨pb1, ct1, hA, pb2, hp2, hC2⟩ := act_d hact hz
    exact ⟨0, zz, _, _, rfl, ⟨sv, wset_s⟩, fun _ => hz, bz_setp hp2 hC2 hk2 ho _, Or.inr (⟨hg, rfl, D, hd, hA⟩)⟩
def D_divideBy (vi z : Int) (pb : Nat → PT) (ct : Nat → Int) (k nv : Int) (pb1 : Nat → PT) (ct1 : Nat → Int) : Prop := (¬ (0 ≤ vi ∧ vi ≤ 2) ∧ k = 1 ∧ pb1 = pb ∧ ct1 = ct) ∨ ((0 ≤ vi ∧ vi ≤ 2) ∧ ¬ (-99 ≤ z ∧ z ≤ 99) ∧ k = 2 ∧ pb1 = pb ∧ ct1 = ct) ∨ ((0 ≤ vi ∧ vi ≤ 2) ∧ (-99 ≤ z ∧ z ≤ 99) ∧ k = 0 ∧ ∃ D : PT, (dvC (pb vi.toNat) z → D.1 = (pb vi.toNat).1 ∧ D.2.1 * z = (pb vi.toNat).2.1 ∧ D.2.2 * z = (pb vi.toNat).2.2) ∧ ACD pb ct vi.toNat D (dvC (pb vi.toNat) z) nv pb1 ct1)
set_option maxHeartbeats 1000000 in
theorem a_divideBy {τ ad : Nat → Nat} {w w' : Wd} {o : Nat} {bs ss : Nat → Int} {pb : Nat → PT} {P Q : Nat → Nat} {ct : Nat → Int} (hC : CS τ ad w bs ss pb P Q ct) (ho : τ o = 199) (hO : OU w o) {vi z : Int} {r' : Option Value} (h : (¬ ((0 ≤ vi ∧ vi ≤ 2)) ∧ r' = some (iI 1) ∧ w.1 ≤ w'.1 ∧ w'.2 = w.2) ∨ (((0 ≤ vi ∧ vi ≤ 2)) ∧ ¬ ((-99 ≤ z ∧ z ≤ 99)) ∧ r' = some (iI 2) ∧ w.1 ≤ w'.1 ∧ w'.2 = w.2) ∨ (((0 ≤ vi ∧ vi ≤ 2)) ∧ ((-99 ≤ z ∧ z ≤ 99)) ∧ r' = some (iI 0) ∧ ∃ (i : Nat), vi = (i : Int) ∧ ∃ (zz : Int) (uu : Wd) (sv : Value), (-2147483648 ≤ zz ∧ zz < 2147483648) ∧ (∃ D : PT, (dvC (pb i) z → D.1 = (pb i).1 ∧ D.2.1 * z = (pb i).2.1 ∧ D.2.2 * z = (pb i).2.2) ∧ ACTP τ ad uu bs ss pb P Q ct i D (dvC (pb i) z) (some (iI zz)) ∧ KO τ w uu) ∧ w' = wset uu o (true, eO 9 [jJ zz, sv]))) : ∃ (k nv : Int) (pb1 : Nat → PT) (ct1 : Nat → Int), r' = some (iI k) ∧ OV w' o nv ∧ (k = 0 → -2147483648 ≤ nv ∧ nv < 2147483648) ∧ BZ τ ad o w w' bs ss pb1 P Q ct1 ∧ D_divideBy vi z pb ct k nv pb1 ct1 := by
  obtain ⟨n0, s0, hO⟩ := hO
  rcases h with h | h | h
  · obtain ⟨hb, rfl, h1, h2⟩ := h
    exact ⟨1, n0, _, _, rfl, ⟨s0, by rw [h2]; exact hO⟩, fun h => absurd h (by omega), bz_same hC h1 h2, Or.inl ⟨hb, rfl, rfl, rfl⟩⟩
  · obtain ⟨hg, hb, rfl, h1, h2⟩ := h
    exact ⟨2, n0, _, _, rfl, ⟨s0, by rw [h2]; exact hO⟩, fun h => absurd h (by omega), bz_same hC h1 h2, Or.inr (Or.inl ⟨hg, hb, rfl, rfl, rfl⟩)⟩
  · obtain ⟨hg, hb, rfl, i, rfl, zz, uu, sv, hz, ⟨D, hd, hact, hk2⟩, rfl⟩ := h
    obtain ⟨pb1, ct1, hA, pb2, hp2, hC2⟩ := act_d hact hz
    exact ⟨0, zz, _, _, rfl, ⟨sv, wset_s⟩, fun _ => hz, bz_setp hp2 hC2 hk2 ho _, Or.inr (Or.inr ⟨hg, hb, rfl, D, hd, hA⟩)⟩
def D_pairCopy (vi vk : Int) (pb : Nat → PT) (ct : Nat → Int) (k nv : Int) (pb1 : Nat → PT) (ct1 : Nat → Int) : Prop := (¬ ((0 ≤ vi ∧ vi ≤ 2) ∧ (0 ≤ vk ∧ vk ≤ 2)) ∧ k = 1 ∧ pb1 = pb ∧ ct1 = ct) ∨ (((0 ≤ vi ∧ vi ≤ 2) ∧ (0 ≤ vk ∧ vk ≤ 2)) ∧ k = 0 ∧ ∃ D : PT, (D = pb vi.toNat) ∧ ACD pb ct vk.toNat D (sm D) nv pb1 ct1)
set_option maxHeartbeats 1000000 in
theorem a_pairCopy {τ ad : Nat → Nat} {w w' : Wd} {o : Nat} {bs ss : Nat → Int} {pb : Nat → PT} {P Q : Nat → Nat} {ct : Nat → Int} (hC : CS τ ad w bs ss pb P Q ct) (ho : τ o = 199) (hO : OU w o) {vi vk : Int} {r' : Option Value} (h : (¬ ((0 ≤ vi ∧ vi ≤ 2) ∧ (0 ≤ vk ∧ vk ≤ 2)) ∧ r' = some (iI 1) ∧ w.1 ≤ w'.1 ∧ w'.2 = w.2) ∨ (((0 ≤ vi ∧ vi ≤ 2) ∧ (0 ≤ vk ∧ vk ≤ 2)) ∧ r' = some (iI 0) ∧ ∃ (i : Nat) (k : Nat), vi = (i : Int) ∧ vk = (k : Int) ∧ ∃ (zz : Int) (uu : Wd) (sv : Value), (-2147483648 ≤ zz ∧ zz < 2147483648) ∧ (∃ D : PT, (D = pb i) ∧ ACTP τ ad uu bs ss pb P Q ct k D (sm D) (some (iI zz)) ∧ KO τ w uu) ∧ w' = wset uu o (true, eO 9 [jJ zz, sv]))) : ∃ (k nv : Int) (pb1 : Nat → PT) (ct1 : Nat → Int), r' = some (iI k) ∧ OV w' o nv ∧ (k = 0 → -2147483648 ≤ nv ∧ nv < 2147483648) ∧ BZ τ ad o w w' bs ss pb1 P Q ct1 ∧ D_pairCopy vi vk pb ct k nv pb1 ct1 := by
  obtain ⟨n0, s0, hO⟩ := hO
  rcases h with h | h
  · obtain ⟨hb, rfl, h1, h2⟩ := h
    exact ⟨1, n0, _, _, rfl, ⟨s0, by rw [h2]; exact hO⟩, fun h => absurd h (by omega), bz_same hC h1 h2, Or.inl ⟨hb, rfl, rfl, rfl⟩⟩
  · obtain ⟨hg, rfl, i, k, rfl, rfl, zz, uu, sv, hz, ⟨D, hd, hact, hk2⟩, rfl⟩ := h
    obtain ⟨pb1, ct1, hA, pb2, hp2, hC2⟩ := act_d hact hz
    exact ⟨0, zz, _, _, rfl, ⟨sv, wset_s⟩, fun _ => hz, bz_setp hp2 hC2 hk2 ho _, Or.inr (⟨hg, rfl, D, hd, hA⟩)⟩
set_option maxHeartbeats 1000000 in
theorem b_put {bs ss ba st pm le ri ct cm : Nat → Int} {pb : Nat → PT} {P Q : Nat → Nat} {sp : Nat → Nat → Int} {th : Int} {t : Nat} (hg : GD ba st pm le ri sp cm th t) (hr : RLx bs ss pb P Q ct ba st pm le ri sp cm) {k nv : Int} {vi b x y : Int} {pb1 : Nat → PT} {ct1 : Nat → Int} (h1 : D_put vi b x y pb ct k nv pb1 ct1) {t2 ans : Int} {pm' le' ri' cm' : Nat → Int} (h2 : ¬ (0 ≤ vi ∧ vi ≤ 2) ∧ t2 = 1 ∧ ans = 0 ∧ pm' = pm ∧ le' = le ∧ ri' = ri ∧ cm' = cm ∨ (0 ≤ vi ∧ vi ≤ 2) ∧ ¬ (GB b ∧ (-1000 ≤ x ∧ x ≤ 1000) ∧ (-1000 ≤ y ∧ y ≤ 1000)) ∧ t2 = 2 ∧ ans = 0 ∧ pm' = pm ∧ le' = le ∧ ri' = ri ∧ cm' = cm ∨ (0 ≤ vi ∧ vi ≤ 2) ∧ (GB b ∧ (-1000 ≤ x ∧ x ≤ 1000) ∧ (-1000 ≤ y ∧ y ≤ 1000)) ∧ t2 = 0 ∧ ans = bI (¬ (pm vi.toNat = b ∧ le vi.toNat = x ∧ ri vi.toNat = y)) ∧ pm' = iup pm vi.toNat b ∧ le' = iup le vi.toNat x ∧ ri' = iup ri vi.toNat y ∧ cm' = iup cm 1 (cm 1 + 1)) : GD ba st pm' le' ri' sp cm' t2 (t + 1) ∧ RLx bs ss pb1 P Q ct1 ba st pm' le' ri' sp cm' ∧ k = t2 ∧ (k = 0 → nv = ans) := by
  obtain ⟨g1, g2, g3, g4, g5, g6⟩ := hg
  obtain ⟨x1, x2, x3, -⟩ := bp_put g3 g6 h2
  refine ⟨⟨g1, g2, x2, g4, x1, x3⟩, ?_⟩
  rcases h1 with ⟨a1, a2, a3, a4⟩ | ⟨a1, a0, a2, a3, a4⟩ | ⟨a1, a0, a2, D, hd, hA⟩
  · rcases h2 with ⟨c1, c2, -, c4, c5, c6, c7⟩ | ⟨c1, c0, c2, -, c4, c5, c6, c7⟩ | ⟨c1, c0, c2, c3, c4, c5, c6, c7⟩
    · subst a3 a4 c4 c5 c6 c7
      exact ⟨hr, by omega, by omega⟩
    · first | omega | exact (c1 a1).elim | exact (a1 c1).elim | exact (c0 a0).elim | exact (a0 c0).elim | exact (c0 ‹_›).elim
    · first | omega | exact (c1 a1).elim | exact (a1 c1).elim | exact (c0 a0).elim | exact (a0 c0).elim | exact (c0 ‹_›).elim
  · rcases h2 with ⟨c1, c2, -, c4, c5, c6, c7⟩ | ⟨c1, c0, c2, -, c4, c5, c6, c7⟩ | ⟨c1, c0, c2, c3, c4, c5, c6, c7⟩
    · first | omega | exact (c1 a1).elim | exact (a1 c1).elim | exact (c0 a0).elim | exact (a0 c0).elim | exact (c0 ‹_›).elim
    · subst a3 a4 c4 c5 c6 c7
      exact ⟨hr, by omega, by omega⟩
    · first | omega | exact (c1 a1).elim | exact (a1 c1).elim | exact (c0 a0).elim | exact (a0 c0).elim | exact (c0 ‹_›).elim
  · rcases h2 with ⟨c1, c2, -, c4, c5, c6, c7⟩ | ⟨c1, c0, c2, -, c4, c5, c6, c7⟩ | ⟨c1, c0, c2, c3, c4, c5, c6, c7⟩
    · first | omega | exact (c1 a1).elim | exact (a1 c1).elim | exact (c0 a0).elim | exact (a0 c0).elim | exact (c0 ‹_›).elim
    · first | omega | exact (c1 a1).elim | exact (a1 c1).elim | exact (c0 a0).elim | exact (a0 c0).elim | exact (c0 ‹_›).elim
    · have hsm := x2
      rw [c4, c5, c6] at hsm
      replace hsm := hp_sm (by omega) hsm
      obtain ⟨y1, y2⟩ := act_b (T := vi.toNat) hr (by omega) hA (fun _ => hd) Iff.rfl (Or.inr ⟨by rw [hd]; exact hsm, c3, c4, c5, c6, c7⟩)
      exact ⟨y1, by omega, fun _ => y2⟩
set_option maxHeartbeats 1000000 in
theorem b_least {bs ss ba st pm le ri ct cm : Nat → Int} {pb : Nat → PT} {P Q : Nat → Nat} {sp : Nat → Nat → Int} {th : Int} {t : Nat} (hg : GD ba st pm le ri sp cm th t) (hr : RLx bs ss pb P Q ct ba st pm le ri sp cm) {k nv : Int} {vi b : Int} {pb1 : Nat → PT} {ct1 : Nat → Int} (h1 : D_least vi b pb ct k nv pb1 ct1) {t2 ans : Int} {pm' le' ri' cm' : Nat → Int} (h2 : ¬ (0 ≤ vi ∧ vi ≤ 2) ∧ t2 = 1 ∧ ans = 0 ∧ pm' = pm ∧ le' = le ∧ ri' = ri ∧ cm' = cm ∨ (0 ≤ vi ∧ vi ≤ 2) ∧ ¬ GB b ∧ t2 = 2 ∧ ans = 0 ∧ pm' = pm ∧ le' = le ∧ ri' = ri ∧ cm' = cm ∨ (0 ≤ vi ∧ vi ≤ 2) ∧ GB b ∧ t2 = 0 ∧ ∃ r, RT b r ∧ ans = bI (¬ (pm vi.toNat = b ∧ le vi.toNat = (leaP b r) ∧ ri vi.toNat = (leaQ b r))) ∧ pm' = iup pm vi.toNat b ∧ le' = iup le vi.toNat (leaP b r) ∧ ri' = iup ri vi.toNat (leaQ b r) ∧ cm' = iup cm 1 (cm 1 + 1)) : GD ba st pm' le' ri' sp cm' t2 (t + 1) ∧ RLx bs ss pb1 P Q ct1 ba st pm' le' ri' sp cm' ∧ k = t2 ∧ (k = 0 → nv = ans) := by
  obtain ⟨g1, g2, g3, g4, g5, g6⟩ := hg
  obtain ⟨x1, x2, x3, -⟩ := bp_least g3 g6 h2
  refine ⟨⟨g1, g2, x2, g4, x1, x3⟩, ?_⟩
  rcases h1 with ⟨a1, a2, a3, a4⟩ | ⟨a1, a0, a2, a3, a4⟩ | ⟨a1, a0, a2, D, hd, hA⟩
  · rcases h2 with ⟨c1, c2, -, c4, c5, c6, c7⟩ | ⟨c1, c0, c2, -, c4, c5, c6, c7⟩ | ⟨c1, c0, c2, r2, hr2, c3, c4, c5, c6, c7⟩
    · subst a3 a4 c4 c5 c6 c7
      exact ⟨hr, by omega, by omega⟩
    · first | omega | exact (c1 a1).elim | exact (a1 c1).elim | exact (c0 a0).elim | exact (a0 c0).elim | exact (c0 ‹_›).elim
    · first | omega | exact (c1 a1).elim | exact (a1 c1).elim | exact (c0 a0).elim | exact (a0 c0).elim | exact (c0 ‹_›).elim
  · rcases h2 with ⟨c1, c2, -, c4, c5, c6, c7⟩ | ⟨c1, c0, c2, -, c4, c5, c6, c7⟩ | ⟨c1, c0, c2, r2, hr2, c3, c4, c5, c6, c7⟩
    · first | omega | exact (c1 a1).elim | exact (a1 c1).elim | exact (c0 a0).elim | exact (a0 c0).elim | exact (c0 ‹_›).elim
    · subst a3 a4 c4 c5 c6 c7
      exact ⟨hr, by omega, by omega⟩
    · first | omega | exact (c1 a1).elim | exact (a1 c1).elim | exact (c0 a0).elim | exact (a0 c0).elim | exact (c0 ‹_›).elim
  · rcases h2 with ⟨c1, c2, -, c4, c5, c6, c7⟩ | ⟨c1, c0, c2, -, c4, c5, c6, c7⟩ | ⟨c1, c0, c2, r2, hr2, c3, c4, c5, c6, c7⟩
    · first | omega | exact (c1 a1).elim | exact (a1 c1).elim | exact (c0 a0).elim | exact (a0 c0).elim | exact (c0 ‹_›).elim
    · first | omega | exact (c1 a1).elim | exact (a1 c1).elim | exact (c0 a0).elim | exact (a0 c0).elim | exact (c0 ‹_›).elim
    · have hsm := x2
      rw [c4, c5, c6] at hsm
      replace hsm := hp_sm (by omega) hsm
      obtain ⟨r1, hr1, hd⟩ := hd
      have er := RT_uniq hr1 hr2
      subst er
      obtain ⟨y1, y2⟩ := act_b (T := vi.toNat) hr (by omega) hA (fun _ => hd) Iff.rfl (Or.inr ⟨by rw [hd]; exact hsm, c3, c4, c5, c6, c7⟩)
      exact ⟨y1, by omega, fun _ => y2⟩
set_option maxHeartbeats 1000000 in
theorem b_mirror {bs ss ba st pm le ri ct cm : Nat → Int} {pb : Nat → PT} {P Q : Nat → Nat} {sp : Nat → Nat → Int} {th : Int} {t : Nat} (hg : GD ba st pm le ri sp cm th t) (hr : RLx bs ss pb P Q ct ba st pm le ri sp cm) {k nv : Int} {vi y : Int} {pb1 : Nat → PT} {ct1 : Nat → Int} (h1 : D_mirror vi y pb ct k nv pb1 ct1) {t2 ans : Int} {pm' le' ri' cm' : Nat → Int} (h2 : ¬ (0 ≤ vi ∧ vi ≤ 2) ∧ t2 = 1 ∧ ans = 0 ∧ pm' = pm ∧ le' = le ∧ ri' = ri ∧ cm' = cm ∨ (0 ≤ vi ∧ vi ≤ 2) ∧ t2 = 0 ∧ ∃ x : Int, (y = 1 ∧ x = - le vi.toNat ∨ y = 0 ∧ x = le vi.toNat) ∧ ans = bI (¬ (pm vi.toNat = (pm vi.toNat) ∧ le vi.toNat = x ∧ ri vi.toNat = (- ri vi.toNat))) ∧ pm' = iup pm vi.toNat (pm vi.toNat) ∧ le' = iup le vi.toNat x ∧ ri' = iup ri vi.toNat (- ri vi.toNat) ∧ cm' = iup cm 1 (cm 1 + 1)) : GD ba st pm' le' ri' sp cm' t2 (t + 1) ∧ RLx bs ss pb1 P Q ct1 ba st pm' le' ri' sp cm' ∧ k = t2 ∧ (k = 0 → nv = ans) := by
  obtain ⟨g1, g2, g3, g4, g5, g6⟩ := hg
  obtain ⟨x1, x2, x3, -⟩ := bp_mirror g3 g6 h2
  refine ⟨⟨g1, g2, x2, g4, x1, x3⟩, ?_⟩
  rcases h1 with ⟨a1, a2, a3, a4⟩ | ⟨a1, a2, D, hd, hA⟩
  · rcases h2 with ⟨c1, c2, -, c4, c5, c6, c7⟩ | ⟨c1, c2, x, hx, c3, c4, c5, c6, c7⟩
    · subst a3 a4 c4 c5 c6 c7
      exact ⟨hr, by omega, by omega⟩
    · first | omega | exact (c1 a1).elim | exact (a1 c1).elim | exact (c0 a0).elim | exact (a0 c0).elim | exact (c0 ‹_›).elim
  · rcases h2 with ⟨c1, c2, -, c4, c5, c6, c7⟩ | ⟨c1, c2, x, hx, c3, c4, c5, c6, c7⟩
    · first | omega | exact (c1 a1).elim | exact (a1 c1).elim | exact (c0 a0).elim | exact (a0 c0).elim | exact (c0 ‹_›).elim
    · have hsm := x2
      rw [c4, c5, c6] at hsm
      replace hsm := hp_sm (by omega) hsm
      obtain ⟨v, hv, hd⟩ := hd
      rw [hr.2.1 vi.toNat (by omega)] at hv hd
      dsimp only at hv hd
      have ev : v = x := by omega
      subst ev
      obtain ⟨y1, y2⟩ := act_b (T := vi.toNat) hr (by omega) hA (fun _ => hd) Iff.rfl (Or.inr ⟨by rw [hd]; exact hsm, c3, c4, c5, c6, c7⟩)
      exact ⟨y1, by omega, fun _ => y2⟩
set_option maxHeartbeats 1000000 in
theorem b_pairCopy {bs ss ba st pm le ri ct cm : Nat → Int} {pb : Nat → PT} {P Q : Nat → Nat} {sp : Nat → Nat → Int} {th : Int} {t : Nat} (hg : GD ba st pm le ri sp cm th t) (hr : RLx bs ss pb P Q ct ba st pm le ri sp cm) {k nv : Int} {vi vk : Int} {pb1 : Nat → PT} {ct1 : Nat → Int} (h1 : D_pairCopy vi vk pb ct k nv pb1 ct1) {t2 ans : Int} {pm' le' ri' cm' : Nat → Int} (h2 : ¬ ((0 ≤ vi ∧ vi ≤ 2) ∧ (0 ≤ vk ∧ vk ≤ 2)) ∧ t2 = 1 ∧ ans = 0 ∧ pm' = pm ∧ le' = le ∧ ri' = ri ∧ cm' = cm ∨ ((0 ≤ vi ∧ vi ≤ 2) ∧ (0 ≤ vk ∧ vk ≤ 2)) ∧ t2 = 0 ∧ ans = bI (¬ (pm vk.toNat = (pm vi.toNat) ∧ le vk.toNat = (le vi.toNat) ∧ ri vk.toNat = (ri vi.toNat))) ∧ pm' = iup pm vk.toNat (pm vi.toNat) ∧ le' = iup le vk.toNat (le vi.toNat) ∧ ri' = iup ri vk.toNat (ri vi.toNat) ∧ cm' = iup cm 1 (cm 1 + 1)) : GD ba st pm' le' ri' sp cm' t2 (t + 1) ∧ RLx bs ss pb1 P Q ct1 ba st pm' le' ri' sp cm' ∧ k = t2 ∧ (k = 0 → nv = ans) := by
  obtain ⟨g1, g2, g3, g4, g5, g6⟩ := hg
  obtain ⟨x1, x2, x3, -⟩ := bp_pairCopy g3 g6 h2
  refine ⟨⟨g1, g2, x2, g4, x1, x3⟩, ?_⟩
  rcases h1 with ⟨a1, a2, a3, a4⟩ | ⟨a1, a2, D, hd, hA⟩
  · rcases h2 with ⟨c1, c2, -, c4, c5, c6, c7⟩ | ⟨c1, c2, c3, c4, c5, c6, c7⟩
    · subst a3 a4 c4 c5 c6 c7
      exact ⟨hr, by omega, by omega⟩
    · first | omega | exact (c1 a1).elim | exact (a1 c1).elim | exact (c0 a0).elim | exact (a0 c0).elim | exact (c0 ‹_›).elim
  · rcases h2 with ⟨c1, c2, -, c4, c5, c6, c7⟩ | ⟨c1, c2, c3, c4, c5, c6, c7⟩
    · first | omega | exact (c1 a1).elim | exact (a1 c1).elim | exact (c0 a0).elim | exact (a0 c0).elim | exact (c0 ‹_›).elim
    · have hsm := x2
      rw [c4, c5, c6] at hsm
      replace hsm := hp_sm (by omega) hsm
      rw [hr.2.1 vi.toNat (by omega)] at hd
      obtain ⟨y1, y2⟩ := act_b (T := vk.toNat) hr (by omega) hA (fun _ => hd) Iff.rfl (Or.inr ⟨by rw [hd]; exact hsm, c3, c4, c5, c6, c7⟩)
      exact ⟨y1, by omega, fun _ => y2⟩
set_option maxHeartbeats 1000000 in
theorem b_take {bs ss ba st pm le ri ct cm : Nat → Int} {pb : Nat → PT} {P Q : Nat → Nat} {sp : Nat → Nat → Int} {th : Int} {t : Nat} (hg : GD ba st pm le ri sp cm th t) (hr : RLx bs ss pb P Q ct ba st pm le ri sp cm) {k nv : Int} {vi vk : Int} {pb1 : Nat → PT} {ct1 : Nat → Int} (h1 : D_take vi vk bs ss pb ct k nv pb1 ct1) {t2 ans : Int} {pm' le' ri' cm' : Nat → Int} (h2 : ¬ ((0 ≤ vi ∧ vi ≤ 2) ∧ (0 ≤ vk ∧ vk ≤ 2)) ∧ t2 = 1 ∧ ans = 0 ∧ pm' = pm ∧ le' = le ∧ ri' = ri ∧ cm' = cm ∨ ((0 ≤ vi ∧ vi ≤ 2) ∧ (0 ≤ vk ∧ vk ≤ 2)) ∧ t2 = 0 ∧ ∃ r, RT (ba vi.toNat) r ∧ ((LGN ≤ aB (pq (ba vi.toNat) r 1 r (st vi.toNat).toNat).1 ∨ LGN ≤ aB (pq (ba vi.toNat) r 0 1 (st vi.toNat).toNat).1) ∧ ans = -9 ∧ pm' = pm ∧ le' = le ∧ ri' = ri ∧ cm' = iup cm 3 (cm 3 + 1) ∨ ¬ (LGN ≤ aB (pq (ba vi.toNat) r 1 r (st vi.toNat).toNat).1 ∨ LGN ≤ aB (pq (ba vi.toNat) r 0 1 (st vi.toNat).toNat).1) ∧ ans = bI (¬ (pm vk.toNat = (ba vi.toNat) ∧ le vk.toNat = (pq (ba vi.toNat) r 1 r (st vi.toNat).toNat).1 ∧ ri vk.toNat = (pq (ba vi.toNat) r 0 1 (st vi.toNat).toNat).1)) ∧ pm' = iup pm vk.toNat (ba vi.toNat) ∧ le' = iup le vk.toNat (pq (ba vi.toNat) r 1 r (st vi.toNat).toNat).1 ∧ ri' = iup ri vk.toNat (pq (ba vi.toNat) r 0 1 (st vi.toNat).toNat).1 ∧ cm' = iup cm 1 (cm 1 + 1))) : GD ba st pm' le' ri' sp cm' t2 (t + 1) ∧ RLx bs ss pb1 P Q ct1 ba st pm' le' ri' sp cm' ∧ k = t2 ∧ (k = 0 → nv = ans) := by
  obtain ⟨g1, g2, g3, g4, g5, g6⟩ := hg
  obtain ⟨x1, x2, x3, -⟩ := bp_take g3 g6 (ba := ba) (st := st) g1 h2
  refine ⟨⟨g1, g2, x2, g4, x1, x3⟩, ?_⟩
  rcases h1 with ⟨a1, a2, a3, a4⟩ | ⟨a1, a2, D, hd, hA⟩
  · rcases h2 with ⟨c1, c2, -, c4, c5, c6, c7⟩ | ⟨c1, c2, r2, hr2, ⟨c8, c3, c4, c5, c6, c7⟩ | ⟨c8, c3, c4, c5, c6, c7⟩⟩
    · subst a3 a4 c4 c5 c6 c7
      exact ⟨hr, by omega, by omega⟩
    · first | omega | exact (c1 a1).elim | exact (a1 c1).elim | exact (c0 a0).elim | exact (a0 c0).elim | exact (c0 ‹_›).elim
    · first | omega | exact (c1 a1).elim | exact (a1 c1).elim | exact (c0 a0).elim | exact (a0 c0).elim | exact (c0 ‹_›).elim
  · rcases h2 with ⟨c1, c2, -, c4, c5, c6, c7⟩ | ⟨c1, c2, r2, hr2, ⟨c8, c3, c4, c5, c6, c7⟩ | ⟨c8, c3, c4, c5, c6, c7⟩⟩
    · first | omega | exact (c1 a1).elim | exact (a1 c1).elim | exact (c0 a0).elim | exact (a0 c0).elim | exact (c0 ‹_›).elim
    · obtain ⟨r1, hr1, hd⟩ := hd
      obtain ⟨w1, w2, -⟩ := hr.1 vi.toNat (by omega)
      rw [w1] at hr1 hd
      rw [w2] at hd
      have er := RT_uniq hr1 hr2
      subst er
      obtain ⟨y1, y2⟩ := act_b (T := vk.toNat) hr (by omega) hA (fun _ => hd) Iff.rfl (Or.inl ⟨fun q => by rw [hd] at q; exact q c8, c3, c4, c5, c6, c7⟩)
      exact ⟨y1, by omega, fun _ => y2⟩
    · obtain ⟨r1, hr1, hd⟩ := hd
      obtain ⟨w1, w2, -⟩ := hr.1 vi.toNat (by omega)
      rw [w1] at hr1 hd
      rw [w2] at hd
      have er := RT_uniq hr1 hr2
      subst er
      obtain ⟨y1, y2⟩ := act_b (T := vk.toNat) hr (by omega) hA (fun _ => hd) Iff.rfl (Or.inr ⟨(by rw [hd]; exact c8), c3, c4, c5, c6, c7⟩)
      exact ⟨y1, by omega, fun _ => y2⟩
set_option maxHeartbeats 1000000 in
theorem b_compose {bs ss ba st pm le ri ct cm : Nat → Int} {pb : Nat → PT} {P Q : Nat → Nat} {sp : Nat → Nat → Int} {th : Int} {t : Nat} (hg : GD ba st pm le ri sp cm th t) (hr : RLx bs ss pb P Q ct ba st pm le ri sp cm) {k nv : Int} {vi vk vn : Int} {pb1 : Nat → PT} {ct1 : Nat → Int} (h1 : D_compose vi vk vn pb ct k nv pb1 ct1) {t2 ans : Int} {pm' le' ri' cm' : Nat → Int} (h2 : ¬ ((0 ≤ vi ∧ vi ≤ 2) ∧ (0 ≤ vk ∧ vk ≤ 2) ∧ (0 ≤ vn ∧ vn ≤ 2)) ∧ t2 = 1 ∧ ans = 0 ∧ pm' = pm ∧ le' = le ∧ ri' = ri ∧ cm' = cm ∨ ((0 ≤ vi ∧ vi ≤ 2) ∧ (0 ≤ vk ∧ vk ≤ 2) ∧ (0 ≤ vn ∧ vn ≤ 2)) ∧ t2 = 0 ∧ pm vi.toNat ≠ pm vk.toNat ∧ ans = -9 ∧ pm' = pm ∧ le' = le ∧ ri' = ri ∧ cm' = iup cm 3 (cm 3 + 1) ∨ ((0 ≤ vi ∧ vi ≤ 2) ∧ (0 ≤ vk ∧ vk ≤ 2) ∧ (0 ≤ vn ∧ vn ≤ 2)) ∧ t2 = 0 ∧ pm vi.toNat = pm vk.toNat ∧ ((LGN ≤ aB (le vi.toNat * le vk.toNat + pm vi.toNat * (ri vi.toNat * ri vk.toNat)) ∨ LGN ≤ aB (le vi.toNat * ri vk.toNat + ri vi.toNat * le vk.toNat)) ∧ ans = -9 ∧ pm' = pm ∧ le' = le ∧ ri' = ri ∧ cm' = iup cm 3 (cm 3 + 1) ∨ ¬ (LGN ≤ aB (le vi.toNat * le vk.toNat + pm vi.toNat * (ri vi.toNat * ri vk.toNat)) ∨ LGN ≤ aB (le vi.toNat * ri vk.toNat + ri vi.toNat * le vk.toNat)) ∧ ans = bI (¬ (pm vn.toNat = (pm vi.toNat) ∧ le vn.toNat = (le vi.toNat * le vk.toNat + pm vi.toNat * (ri vi.toNat * ri vk.toNat)) ∧ ri vn.toNat = (le vi.toNat * ri vk.toNat + ri vi.toNat * le vk.toNat))) ∧ pm' = iup pm vn.toNat (pm vi.toNat) ∧ le' = iup le vn.toNat (le vi.toNat * le vk.toNat + pm vi.toNat * (ri vi.toNat * ri vk.toNat)) ∧ ri' = iup ri vn.toNat (le vi.toNat * ri vk.toNat + ri vi.toNat * le vk.toNat) ∧ cm' = iup cm 1 (cm 1 + 1))) : GD ba st pm' le' ri' sp cm' t2 (t + 1) ∧ RLx bs ss pb1 P Q ct1 ba st pm' le' ri' sp cm' ∧ k = t2 ∧ (k = 0 → nv = ans) := by
  obtain ⟨g1, g2, g3, g4, g5, g6⟩ := hg
  obtain ⟨x1, x2, x3, -⟩ := bp_compose g3 g6 h2
  refine ⟨⟨g1, g2, x2, g4, x1, x3⟩, ?_⟩
  rcases h1 with ⟨a1, a2, a3, a4⟩ | ⟨a1, a2, D, hd, hA⟩
  · rcases h2 with ⟨c1, c2, -, c4, c5, c6, c7⟩ | ⟨c1, c2, c8, c3, c4, c5, c6, c7⟩ | ⟨c1, c2, c9, ⟨c8, c3, c4, c5, c6, c7⟩ | ⟨c8, c3, c4, c5, c6, c7⟩⟩
    · subst a3 a4 c4 c5 c6 c7
      exact ⟨hr, by omega, by omega⟩
    · first | omega | exact (c1 a1).elim | exact (a1 c1).elim | exact (c0 a0).elim | exact (a0 c0).elim | exact (c0 ‹_›).elim
    · first | omega | exact (c1 a1).elim | exact (a1 c1).elim | exact (c0 a0).elim | exact (a0 c0).elim | exact (c0 ‹_›).elim
    · first | omega | exact (c1 a1).elim | exact (a1 c1).elim | exact (c0 a0).elim | exact (a0 c0).elim | exact (c0 ‹_›).elim
  · rcases h2 with ⟨c1, c2, -, c4, c5, c6, c7⟩ | ⟨c1, c2, c8, c3, c4, c5, c6, c7⟩ | ⟨c1, c2, c9, ⟨c8, c3, c4, c5, c6, c7⟩ | ⟨c8, c3, c4, c5, c6, c7⟩⟩
    · first | omega | exact (c1 a1).elim | exact (a1 c1).elim | exact (c0 a0).elim | exact (a0 c0).elim | exact (c0 ‹_›).elim
    · rw [hr.2.1 vi.toNat (by omega), hr.2.1 vk.toNat (by omega)] at hd hA
      obtain ⟨y1, y2⟩ := act_b (T := vn.toNat) hr (by omega) hA (fun _ => hd) Iff.rfl (Or.inl ⟨fun q => c8 q.1, c3, c4, c5, c6, c7⟩)
      exact ⟨y1, by omega, fun _ => y2⟩
    · rw [hr.2.1 vi.toNat (by omega), hr.2.1 vk.toNat (by omega)] at hd hA
      obtain ⟨y1, y2⟩ := act_b (T := vn.toNat) hr (by omega) hA (fun _ => hd) Iff.rfl (Or.inl ⟨fun q => by rw [hd] at q; exact q.2 c8, c3, c4, c5, c6, c7⟩)
      exact ⟨y1, by omega, fun _ => y2⟩
    · rw [hr.2.1 vi.toNat (by omega), hr.2.1 vk.toNat (by omega)] at hd hA
      obtain ⟨y1, y2⟩ := act_b (T := vn.toNat) hr (by omega) hA (fun _ => hd) Iff.rfl (Or.inr ⟨⟨c9, by rw [hd]; exact c8⟩, c3, c4, c5, c6, c7⟩)
      exact ⟨y1, by omega, fun _ => y2⟩
set_option maxHeartbeats 1000000 in
theorem b_power {bs ss ba st pm le ri ct cm : Nat → Int} {pb : Nat → PT} {P Q : Nat → Nat} {sp : Nat → Nat → Int} {th : Int} {t : Nat} (hg : GD ba st pm le ri sp cm th t) (hr : RLx bs ss pb P Q ct ba st pm le ri sp cm) {k nv : Int} {vi vz : Int} {pb1 : Nat → PT} {ct1 : Nat → Int} (h1 : D_power vi vz pb ct k nv pb1 ct1) {t2 ans : Int} {pm' le' ri' cm' : Nat → Int} (h2 : ¬ (0 ≤ vi ∧ vi ≤ 2) ∧ t2 = 1 ∧ ans = 0 ∧ pm' = pm ∧ le' = le ∧ ri' = ri ∧ cm' = cm ∨ (0 ≤ vi ∧ vi ≤ 2) ∧ ¬ (0 ≤ vz ∧ vz ≤ 5) ∧ t2 = 2 ∧ ans = 0 ∧ pm' = pm ∧ le' = le ∧ ri' = ri ∧ cm' = cm ∨ (0 ≤ vi ∧ vi ≤ 2) ∧ (0 ≤ vz ∧ vz ≤ 5) ∧ t2 = 0 ∧ ((LGN ≤ aB (pw2 (pm vi.toNat) (le vi.toNat) (ri vi.toNat) vz.toNat).1 ∨ LGN ≤ aB (pw2 (pm vi.toNat) (le vi.toNat) (ri vi.toNat) vz.toNat).2) ∧ ans = -9 ∧ pm' = pm ∧ le' = le ∧ ri' = ri ∧ cm' = iup cm 3 (cm 3 + 1) ∨ ¬ (LGN ≤ aB (pw2 (pm vi.toNat) (le vi.toNat) (ri vi.toNat) vz.toNat).1 ∨ LGN ≤ aB (pw2 (pm vi.toNat) (le vi.toNat) (ri vi.toNat) vz.toNat).2) ∧ ans = bI (¬ (pm vi.toNat = (pm vi.toNat) ∧ le vi.toNat = (pw2 (pm vi.toNat) (le vi.toNat) (ri vi.toNat) vz.toNat).1 ∧ ri vi.toNat = (pw2 (pm vi.toNat) (le vi.toNat) (ri vi.toNat) vz.toNat).2)) ∧ pm' = iup pm vi.toNat (pm vi.toNat) ∧ le' = iup le vi.toNat (pw2 (pm vi.toNat) (le vi.toNat) (ri vi.toNat) vz.toNat).1 ∧ ri' = iup ri vi.toNat (pw2 (pm vi.toNat) (le vi.toNat) (ri vi.toNat) vz.toNat).2 ∧ cm' = iup cm 1 (cm 1 + 1))) : GD ba st pm' le' ri' sp cm' t2 (t + 1) ∧ RLx bs ss pb1 P Q ct1 ba st pm' le' ri' sp cm' ∧ k = t2 ∧ (k = 0 → nv = ans) := by
  obtain ⟨g1, g2, g3, g4, g5, g6⟩ := hg
  obtain ⟨x1, x2, x3, -⟩ := bp_power g3 g6 h2
  refine ⟨⟨g1, g2, x2, g4, x1, x3⟩, ?_⟩
  rcases h1 with ⟨a1, a2, a3, a4⟩ | ⟨a1, a0, a2, a3, a4⟩ | ⟨a1, a0, a2, D, hd, hA⟩
  · rcases h2 with ⟨c1, c2, -, c4, c5, c6, c7⟩ | ⟨c1, c0, c2, -, c4, c5, c6, c7⟩ | ⟨c1, c0, c2, ⟨c8, c3, c4, c5, c6, c7⟩ | ⟨c8, c3, c4, c5, c6, c7⟩⟩
    · subst a3 a4 c4 c5 c6 c7
      exact ⟨hr, by omega, by omega⟩
    · first | omega | exact (c1 a1).elim | exact (a1 c1).elim | exact (c0 a0).elim | exact (a0 c0).elim | exact (c0 ‹_›).elim
    · first | omega | exact (c1 a1).elim | exact (a1 c1).elim | exact (c0 a0).elim | exact (a0 c0).elim | exact (c0 ‹_›).elim
    · first | omega | exact (c1 a1).elim | exact (a1 c1).elim | exact (c0 a0).elim | exact (a0 c0).elim | exact (c0 ‹_›).elim
  · rcases h2 with ⟨c1, c2, -, c4, c5, c6, c7⟩ | ⟨c1, c0, c2, -, c4, c5, c6, c7⟩ | ⟨c1, c0, c2, ⟨c8, c3, c4, c5, c6, c7⟩ | ⟨c8, c3, c4, c5, c6, c7⟩⟩
    · first | omega | exact (c1 a1).elim | exact (a1 c1).elim | exact (c0 a0).elim | exact (a0 c0).elim | exact (c0 ‹_›).elim
    · subst a3 a4 c4 c5 c6 c7
      exact ⟨hr, by omega, by omega⟩
    · first | omega | exact (c1 a1).elim | exact (a1 c1).elim | exact (c0 a0).elim | exact (a0 c0).elim | exact (c0 ‹_›).elim
    · first | omega | exact (c1 a1).elim | exact (a1 c1).elim | exact (c0 a0).elim | exact (a0 c0).elim | exact (c0 ‹_›).elim
  · rcases h2 with ⟨c1, c2, -, c4, c5, c6, c7⟩ | ⟨c1, c0, c2, -, c4, c5, c6, c7⟩ | ⟨c1, c0, c2, ⟨c8, c3, c4, c5, c6, c7⟩ | ⟨c8, c3, c4, c5, c6, c7⟩⟩
    · first | omega | exact (c1 a1).elim | exact (a1 c1).elim | exact (c0 a0).elim | exact (a0 c0).elim | exact (c0 ‹_›).elim
    · first | omega | exact (c1 a1).elim | exact (a1 c1).elim | exact (c0 a0).elim | exact (a0 c0).elim | exact (c0 ‹_›).elim
    · rw [hr.2.1 vi.toNat (by omega)] at hd
      obtain ⟨y1, y2⟩ := act_b (T := vi.toNat) hr (by omega) hA (fun _ => hd) Iff.rfl (Or.inl ⟨fun q => by rw [hd] at q; exact q c8, c3, c4, c5, c6, c7⟩)
      exact ⟨y1, by omega, fun _ => y2⟩
    · rw [hr.2.1 vi.toNat (by omega)] at hd
      obtain ⟨y1, y2⟩ := act_b (T := vi.toNat) hr (by omega) hA (fun _ => hd) Iff.rfl (Or.inr ⟨(by rw [hd]; exact c8), c3, c4, c5, c6, c7⟩)
      exact ⟨y1, by omega, fun _ => y2⟩
set_option maxHeartbeats 1000000 in
theorem b_divideBy {bs ss ba st pm le ri ct cm : Nat → Int} {pb : Nat → PT} {P Q : Nat → Nat} {sp : Nat → Nat → Int} {th : Int} {t : Nat} (hg : GD ba st pm le ri sp cm th t) (hr : RLx bs ss pb P Q ct ba st pm le ri sp cm) {k nv : Int} {vi z : Int} {pb1 : Nat → PT} {ct1 : Nat → Int} (h1 : D_divideBy vi z pb ct k nv pb1 ct1) {t2 ans : Int} {pm' le' ri' cm' : Nat → Int} (h2 : ¬ (0 ≤ vi ∧ vi ≤ 2) ∧ t2 = 1 ∧ ans = 0 ∧ pm' = pm ∧ le' = le ∧ ri' = ri ∧ cm' = cm ∨ (0 ≤ vi ∧ vi ≤ 2) ∧ ¬ (-99 ≤ z ∧ z ≤ 99) ∧ t2 = 2 ∧ ans = 0 ∧ pm' = pm ∧ le' = le ∧ ri' = ri ∧ cm' = cm ∨ (0 ≤ vi ∧ vi ≤ 2) ∧ (-99 ≤ z ∧ z ≤ 99) ∧ t2 = 0 ∧ ((z = 0 ∨ aB (le vi.toNat) % aB z ≠ 0 ∨ aB (ri vi.toNat) % aB z ≠ 0) ∧ ans = -9 ∧ pm' = pm ∧ le' = le ∧ ri' = ri ∧ cm' = iup cm 3 (cm 3 + 1) ∨ ¬ (z = 0 ∨ aB (le vi.toNat) % aB z ≠ 0 ∨ aB (ri vi.toNat) % aB z ≠ 0) ∧ ∃ x y : Int, x * z = le vi.toNat ∧ y * z = ri vi.toNat ∧ ans = bI (¬ (pm vi.toNat = (pm vi.toNat) ∧ le vi.toNat = x ∧ ri vi.toNat = y)) ∧ pm' = iup pm vi.toNat (pm vi.toNat) ∧ le' = iup le vi.toNat x ∧ ri' = iup ri vi.toNat y ∧ cm' = iup cm 1 (cm 1 + 1))) : GD ba st pm' le' ri' sp cm' t2 (t + 1) ∧ RLx bs ss pb1 P Q ct1 ba st pm' le' ri' sp cm' ∧ k = t2 ∧ (k = 0 → nv = ans) := by
  obtain ⟨g1, g2, g3, g4, g5, g6⟩ := hg
  obtain ⟨x1, x2, x3, -⟩ := bp_divideBy g3 g6 h2
  refine ⟨⟨g1, g2, x2, g4, x1, x3⟩, ?_⟩
  rcases h1 with ⟨a1, a2, a3, a4⟩ | ⟨a1, a0, a2, a3, a4⟩ | ⟨a1, a0, a2, D, hd, hA⟩
  · rcases h2 with ⟨c1, c2, -, c4, c5, c6, c7⟩ | ⟨c1, c0, c2, -, c4, c5, c6, c7⟩ | ⟨c1, c0, c2, ⟨c8, c3, c4, c5, c6, c7⟩ | ⟨c8, x, y, hx, hy, c3, c4, c5, c6, c7⟩⟩
    · subst a3 a4 c4 c5 c6 c7
      exact ⟨hr, by omega, by omega⟩
    · first | omega | exact (c1 a1).elim | exact (a1 c1).elim | exact (c0 a0).elim | exact (a0 c0).elim | exact (c0 ‹_›).elim
    · first | omega | exact (c1 a1).elim | exact (a1 c1).elim | exact (c0 a0).elim | exact (a0 c0).elim | exact (c0 ‹_›).elim
    · first | omega | exact (c1 a1).elim | exact (a1 c1).elim | exact (c0 a0).elim | exact (a0 c0).elim | exact (c0 ‹_›).elim
  · rcases h2 with ⟨c1, c2, -, c4, c5, c6, c7⟩ | ⟨c1, c0, c2, -, c4, c5, c6, c7⟩ | ⟨c1, c0, c2, ⟨c8, c3, c4, c5, c6, c7⟩ | ⟨c8, x, y, hx, hy, c3, c4, c5, c6, c7⟩⟩
    · first | omega | exact (c1 a1).elim | exact (a1 c1).elim | exact (c0 a0).elim | exact (a0 c0).elim | exact (c0 ‹_›).elim
    · subst a3 a4 c4 c5 c6 c7
      exact ⟨hr, by omega, by omega⟩
    · first | omega | exact (c1 a1).elim | exact (a1 c1).elim | exact (c0 a0).elim | exact (a0 c0).elim | exact (c0 ‹_›).elim
    · first | omega | exact (c1 a1).elim | exact (a1 c1).elim | exact (c0 a0).elim | exact (a0 c0).elim | exact (c0 ‹_›).elim
  · rcases h2 with ⟨c1, c2, -, c4, c5, c6, c7⟩ | ⟨c1, c0, c2, -, c4, c5, c6, c7⟩ | ⟨c1, c0, c2, ⟨c8, c3, c4, c5, c6, c7⟩ | ⟨c8, x, y, hx, hy, c3, c4, c5, c6, c7⟩⟩
    · first | omega | exact (c1 a1).elim | exact (a1 c1).elim | exact (c0 a0).elim | exact (a0 c0).elim | exact (c0 ‹_›).elim
    · first | omega | exact (c1 a1).elim | exact (a1 c1).elim | exact (c0 a0).elim | exact (a0 c0).elim | exact (c0 ‹_›).elim
    · rw [hr.2.1 vi.toNat (by omega)] at hd hA
      obtain ⟨y1, y2⟩ := act_b (T := vi.toNat) hr (by omega) hA (b := pm vi.toNat) (x := 0) (y := 0) (fun q => (q c8).elim) Iff.rfl (Or.inl ⟨fun q => q c8, c3, c4, c5, c6, c7⟩)
      exact ⟨y1, by omega, fun _ => y2⟩
    · rw [hr.2.1 vi.toNat (by omega)] at hd hA
      have hD : D = (pm vi.toNat, x, y) := by
        have hz0 : z ≠ 0 := fun q => c8 (Or.inl q)
        obtain ⟨e1, e2, e3⟩ := hd c8
        dsimp only at e1 e2 e3
        have f2 : D.2.1 = x := Int.eq_of_mul_eq_mul_right hz0 (by rw [e2, hx])
        have f3 : D.2.2 = y := Int.eq_of_mul_eq_mul_right hz0 (by rw [e3, hy])
        exact Prod.ext e1 (Prod.ext f2 f3)
      obtain ⟨y1, y2⟩ := act_b (T := vi.toNat) hr (by omega) hA (fun _ => hD) Iff.rfl (Or.inr ⟨c8, c3, c4, c5, c6, c7⟩)
      exact ⟨y1, by omega, fun _ => y2⟩
/-! Fermat: x to the power p - 1 is 1 by the prime p -/
theorem prB_d {p : Nat} (hp : prB p = true) (h9 : 5 ≤ p ∧ p ≤ 997) {d : Nat} (h1 : d ∣ p) : d = 1 ∨ d = p := by
  obtain ⟨e, he⟩ := h1
  have key : ∀ k, 2 ≤ k → k * k ≤ p → p % k ≠ 0 := fun k h2 h3 => by
    have hk : k < 32 := by
      rcases Nat.lt_or_ge k 32 with q | q
      · exact q
      · have := Nat.mul_le_mul q q
        omega
    have := List.all_eq_true.mp hp k (List.mem_range.mpr hk)
    simp only [Bool.or_eq_true, decide_eq_true_eq] at this
    omega
  rcases Nat.lt_or_ge d 2 with q | q
  · rcases (show d = 0 ∨ d = 1 by omega) with r | r
    · subst r; rw [Nat.zero_mul] at he; omega
    · exact Or.inl r
  · rcases Nat.lt_or_ge e 2 with r | r
    · rcases (show e = 0 ∨ e = 1 by omega) with z | z
      · subst z; rw [Nat.mul_zero] at he; omega
      · subst z; rw [Nat.mul_one] at he; exact Or.inr he.symm
    · exfalso
      rcases Nat.le_total d e with z | z
      · refine key d q ?_ ?_
        · rw [he]; exact Nat.mul_le_mul_left d z
        · rw [he]; exact Nat.mul_mod_right d e
      · refine key e r ?_ ?_
        · rw [he]; exact Nat.mul_le_mul_right e z
        · rw [he]; exact Nat.mul_mod_left d e
theorem prB_m {p x y : Nat} (hp : prB p = true) (h9 : 5 ≤ p ∧ p ≤ 997) (h : p ∣ x * y) : p ∣ x ∨ p ∣ y := by
  rcases prB_d hp h9 (Nat.gcd_dvd_left p x) with q | q
  · exact Or.inr (Nat.Coprime.dvd_of_dvd_mul_left (show Nat.Coprime p x from q) h)
  · exact Or.inl (by rw [← q]; exact Nat.gcd_dvd_right p x)
def bnm : Nat → Nat → Nat
  | _, 0 => 1
  | 0, _ + 1 => 0
  | n + 1, k + 1 => bnm n k + bnm n (k + 1)
theorem bnm_0 : ∀ {n k : Nat}, n < k → bnm n k = 0
  | 0, k + 1, _ => rfl
  | n + 1, k + 1, h => by
    show bnm n k + bnm n (k + 1) = 0
    rw [bnm_0 (show n < k by omega), bnm_0 (show n < k + 1 by omega)]
theorem bnm_s : ∀ n : Nat, bnm n n = 1
  | 0 => rfl
  | n + 1 => by
    show bnm n n + bnm n (n + 1) = 1
    rw [bnm_s n, bnm_0 (Nat.lt_succ_self n)]
theorem bnm_k : ∀ n k : Nat, (k + 1) * bnm (n + 1) (k + 1) = (n + 1) * bnm n k
  | 0, 0 => rfl
  | 0, k + 1 => by
    show (k + 1 + 1) * (bnm 0 (k + 1) + bnm 0 (k + 1 + 1)) = 1 * bnm 0 (k + 1)
    rw [bnm_0 (show 0 < k + 1 by omega), bnm_0 (show 0 < k + 1 + 1 by omega)]
    simp
  | n + 1, 0 => by
    have h : 1 * bnm (n + 1) 1 = (n + 1) * bnm n 0 := bnm_k n 0
    show 1 * (bnm (n + 1) 0 + bnm (n + 1) 1) = (n + 1 + 1) * bnm (n + 1) 0
    have e : bnm (n + 1) 0 = 1 := by cases n <;> rfl
    have e2 : bnm n 0 = 1 := by cases n <;> rfl
    rw [e2] at h
    rw [e]
    omega
  | n + 1, k + 1 => by
    have h1 := bnm_k n k
    have h2 := bnm_k n (k + 1)
    show (k + 1 + 1) * (bnm (n + 1) (k + 1) + bnm (n + 1) (k + 1 + 1)) = (n + 1 + 1) * bnm (n + 1) (k + 1)
    have h3 : bnm (n + 1) (k + 1) = bnm n k + bnm n (k + 1) := rfl
    generalize bnm (n + 1) (k + 1 + 1) = x at h2 ⊢
    generalize bnm (n + 1) (k + 1) = y at h1 h3 ⊢
    generalize bnm n k = a at h1 h3
    generalize bnm n (k + 1) = b at h2 h3
    have e1 : (k + 1 + 1) * (y + x) = (k + 1) * y + y + (k + 1 + 1) * x := by rw [Nat.mul_add, Nat.add_mul (k + 1) 1 y, Nat.one_mul]
    have e2 : (n + 1 + 1) * y = (n + 1) * y + y := by rw [Nat.add_mul (n + 1) 1 y, Nat.one_mul]
    have e3 : (n + 1) * y = (n + 1) * a + (n + 1) * b := by rw [h3, Nat.mul_add]
    rw [e1, e2, e3, h1, h2]
    omega
theorem bnm_p {p k : Nat} (hp : prB p = true) (h9 : 5 ≤ p ∧ p ≤ 997) (h0 : 0 < k) (h1 : k < p) : p ∣ bnm p k := by
  obtain ⟨n, rfl⟩ : ∃ n, p = n + 1 := ⟨p - 1, by omega⟩
  obtain ⟨j, rfl⟩ : ∃ j, k = j + 1 := ⟨k - 1, by omega⟩
  have h := bnm_k n j
  have hd : (n + 1) ∣ (j + 1) * bnm (n + 1) (j + 1) := by rw [h]; exact Nat.dvd_mul_right _ _
  rcases prB_m hp h9 hd with q | q
  · have := Nat.le_of_dvd (by omega) q
    omega
  · exact q
/-- sum of f over the numbers below n -/
def smN (f : Nat → Nat) : Nat → Nat
  | 0 => 0
  | n + 1 => smN f n + f n
theorem smN_add (f g : Nat → Nat) : ∀ n, smN (fun k => f k + g k) n = smN f n + smN g n
  | 0 => rfl
  | n + 1 => by
    show smN (fun k => f k + g k) n + (f n + g n) = smN f n + f n + (smN g n + g n)
    rw [smN_add f g n]; omega
theorem smN_mul (f : Nat → Nat) (c : Nat) : ∀ n, smN (fun k => c * f k) n = c * smN f n
  | 0 => rfl
  | n + 1 => by
    show smN (fun k => c * f k) n + c * f n = c * (smN f n + f n)
    rw [smN_mul f c n, Nat.mul_add]
theorem smN_sh (f : Nat → Nat) : ∀ n, smN f (n + 1) = f 0 + smN (fun k => f (k + 1)) n
  | 0 => by show 0 + f 0 = f 0 + 0; omega
  | n + 1 => by
    show smN f (n + 1) + f (n + 1) = f 0 + (smN (fun k => f (k + 1)) n + f (n + 1))
    rw [smN_sh f n]; omega
theorem smN_cg {f g : Nat → Nat} : ∀ {n : Nat}, (∀ k, k < n → f k = g k) → smN f n = smN g n
  | 0, _ => rfl
  | n + 1, h => by
    show smN f n + f n = smN g n + g n
    rw [smN_cg (fun k hk => h k (by omega)), h n (by omega)]
theorem smN_d {f : Nat → Nat} {p : Nat} : ∀ {n : Nat}, (∀ k, k < n → p ∣ f k) → p ∣ smN f n
  | 0, _ => Nat.dvd_zero p
  | n + 1, h => Nat.dvd_add (smN_d (fun k hk => h k (by omega))) (h n (by omega))
theorem binom (x : Nat) : ∀ n : Nat, (x + 1) ^ n = smN (fun k => bnm n k * x ^ k) (n + 1)
  | 0 => rfl
  | n + 1 => by
    have ih := binom x n
    rw [Nat.pow_succ, ih, smN_sh (fun k => bnm (n + 1) k * x ^ k) (n + 1)]
    have e1 : smN (fun k => bnm (n + 1) (k + 1) * x ^ (k + 1)) (n + 1) = x * smN (fun k => bnm n k * x ^ k) (n + 1) + smN (fun k => bnm n (k + 1) * x ^ (k + 1)) (n + 1) := by
      rw [← smN_mul, ← smN_add]
      refine smN_cg (fun k _ => ?_)
      show (bnm n k + bnm n (k + 1)) * x ^ (k + 1) = x * (bnm n k * x ^ k) + bnm n (k + 1) * x ^ (k + 1)
      rw [Nat.add_mul, Nat.pow_succ, Nat.mul_comm (x ^ k) x, Nat.mul_left_comm]
    have e2 : smN (fun k => bnm n k * x ^ k) (n + 1 + 1) = smN (fun k => bnm n k * x ^ k) (n + 1) := by
      show smN (fun k => bnm n k * x ^ k) (n + 1) + bnm n (n + 1) * x ^ (n + 1) = _
      rw [bnm_0 (Nat.lt_succ_self n), Nat.zero_mul, Nat.add_zero]
    have e3 := smN_sh (fun k => bnm n k * x ^ k) (n + 1)
    rw [e2] at e3
    have e4 : bnm (n + 1) 0 * x ^ 0 = bnm n 0 * x ^ 0 := by cases n <;> rfl
    rw [e1, e4, Nat.mul_add, Nat.mul_one, Nat.mul_comm _ x]
    show x * smN (fun k => bnm n k * x ^ k) (n + 1) + smN (fun k => bnm n k * x ^ k) (n + 1) = bnm n 0 * x ^ 0 + (x * smN (fun k => bnm n k * x ^ k) (n + 1) + smN (fun k => bnm n (k + 1) * x ^ (k + 1)) (n + 1))
    have e5 : smN (fun k => bnm n k * x ^ k) (n + 1) = bnm n 0 * x ^ 0 + smN (fun k => bnm n (k + 1) * x ^ (k + 1)) (n + 1) := e3
    omega
theorem pw_add {p x : Nat} (hp : prB p = true) (h9 : 5 ≤ p ∧ p ≤ 997) : (x + 1) ^ p % p = (x ^ p + 1) % p := by
  obtain ⟨n, rfl⟩ : ∃ n, p = n + 1 := ⟨p - 1, by omega⟩
  have h := binom x (n + 1)
  rw [smN_sh] at h
  have e : smN (fun k => bnm (n + 1) (k + 1) * x ^ (k + 1)) (n + 1) = smN (fun k => bnm (n + 1) (k + 1) * x ^ (k + 1)) n + x ^ (n + 1) := by
    show smN (fun k => bnm (n + 1) (k + 1) * x ^ (k + 1)) n + bnm (n + 1) (n + 1) * x ^ (n + 1) = _
    rw [bnm_s, Nat.one_mul]
  have hd : (n + 1) ∣ smN (fun k => bnm (n + 1) (k + 1) * x ^ (k + 1)) n := smN_d (fun k hk => Nat.dvd_trans (bnm_p hp h9 (by omega) (by omega)) (Nat.dvd_mul_right _ _))
  obtain ⟨c, hc⟩ := hd
  have h' : (x + 1) ^ (n + 1) = 1 * 1 + ((n + 1) * c + x ^ (n + 1)) := by
    rw [h, ← hc, ← e]
    rfl
  rw [h', show 1 * 1 + ((n + 1) * c + x ^ (n + 1)) = (x ^ (n + 1) + 1) + (n + 1) * c by omega, Nat.add_mul_mod_self_left]
theorem fer {p : Nat} (hp : prB p = true) (h9 : 5 ≤ p ∧ p ≤ 997) : ∀ x : Nat, x ^ p % p = x % p
  | 0 => by rw [Nat.zero_pow (by omega)]
  | x + 1 => by
    rw [pw_add hp h9, Nat.add_mod, fer hp h9 x, ← Nat.add_mod]
theorem fer1 {p x : Nat} (hp : prB p = true) (h9 : 5 ≤ p ∧ p ≤ 997) (hx : x % p ≠ 0) : x ^ (p - 1) % p = 1 := by
  have h := fer hp h9 x
  obtain ⟨n, rfl⟩ : ∃ n, p = n + 1 := ⟨p - 1, by omega⟩
  rw [show n + 1 - 1 = n by omega]
  rw [Nat.pow_succ] at h
  have h1 : 1 ≤ x := by
    rcases Nat.eq_zero_or_pos x with q | q
    · subst q; exact (hx (Nat.zero_mod _)).elim
    · exact q
  have h2 : 1 ≤ x ^ n := Nat.pow_pos h1
  have hd : (n + 1) ∣ (x ^ n - 1) * x := by
    rw [Nat.sub_mul, Nat.one_mul]
    exact Nat.dvd_of_mod_eq_zero (Nat.sub_mod_eq_zero_of_mod_eq h)
  rcases prB_m hp h9 hd with q | q
  · obtain ⟨c, hc⟩ := q
    have : x ^ n = 1 + (n + 1) * c := by omega
    rw [this, Nat.add_mul_mod_self_left]
    exact Nat.mod_eq_of_lt (by omega)
  · exact (hx (Nat.mod_eq_zero_of_dvd q)).elim
theorem pmN_pow {a p : Nat} (hp : 2 ≤ p) : ∀ k, pmN a p k = a ^ k % p
  | 0 => by show 1 = 1 % p; rw [Nat.mod_eq_of_lt (by omega)]
  | k + 1 => by
    show pmN a p k * (a % p) % p = a ^ (k + 1) % p
    rw [pmN_pow hp k, Nat.pow_succ, ← Nat.mul_mod]
theorem SPb_p {p : Nat} (h : SPb p = true) : prB p = true ∧ (5 ≤ p ∧ p ≤ 997) ∧ p % 4 = 1 := by
  simp only [SPb, Bool.and_eq_true, decide_eq_true_eq] at h
  exact ⟨h.2, h.1.1, h.1.2⟩
theorem sq_1 {p y : Nat} (hp : prB p = true) (h9 : 5 ≤ p ∧ p ≤ 997) (hy : y < p) (h : y * y % p = 1) : y = 1 ∨ y = p - 1 := by
  rcases Nat.eq_zero_or_pos y with q | q
  · subst q
    rw [Nat.zero_mul, Nat.zero_mod] at h
    omega
  · obtain ⟨z, rfl⟩ : ∃ z, y = z + 1 := ⟨y - 1, by omega⟩
    have e : (z + 1) * (z + 1) = z * (z + 2) + 1 := by
      rw [Nat.add_mul, Nat.mul_add, Nat.mul_add, Nat.mul_add]; omega
    have hd : p ∣ z * (z + 2) := by
      have h1 : (z * (z + 2) + 1) % p = 1 % p := by rw [← e, h, Nat.mod_eq_of_lt (by omega)]
      have h2 := Nat.sub_mod_eq_zero_of_mod_eq h1
      rw [Nat.add_sub_cancel] at h2
      exact Nat.dvd_of_mod_eq_zero h2
    rcases prB_m hp h9 hd with r | r
    · rcases Nat.eq_zero_or_pos z with u | u
      · left; omega
      · have := Nat.le_of_dvd u r
        omega
    · have := Nat.le_of_dvd (by omega) r
      right; omega
theorem sym_eq {p : Nat} {x : Int} (h : SPb p = true) : (if x % (p : Int) = 0 then 0 else if pmN (x % (p : Int)).toNat p ((p - 1) / 2) = 1 then 1 else -1 : Int) = (if pmN (x % (p : Int)).toNat p ((p - 1) / 2) = p - 1 then -1 else ((pmN (x % (p : Int)).toNat p ((p - 1) / 2) : Nat) : Int)) := by
  obtain ⟨hp, h9, h4⟩ := SPb_p h
  have x0 := Int.emod_nonneg x (show (p : Int) ≠ 0 by omega)
  have x1 := Int.emod_lt_of_pos x (show (0 : Int) < p by omega)
  obtain ⟨a, ha⟩ := Int.eq_ofNat_of_zero_le x0
  rw [ha] at x1 ⊢
  rw [Int.toNat_natCast]
  have hl := pmN_lt (a := a) (p := p) (by omega) ((p - 1) / 2)
  rcases Nat.eq_zero_or_pos a with q | q
  · subst q
    have e : pmN 0 p ((p - 1) / 2) = 0 := by
      rw [pmN_pow (by omega), Nat.zero_pow (by omega), Nat.zero_mod]
    rw [e, if_pos (by omega), if_neg (by omega)]
    rfl
  · have hf := fer1 hp h9 (x := a) (by rw [Nat.mod_eq_of_lt (by omega)]; omega)
    have hy : pmN a p ((p - 1) / 2) * pmN a p ((p - 1) / 2) % p = 1 := by
      rw [pmN_pow (by omega), ← Nat.mul_mod, ← Nat.pow_add, show (p - 1) / 2 + (p - 1) / 2 = p - 1 by omega]
      exact hf
    generalize pmN a p ((p - 1) / 2) = y at hl hy ⊢
    rw [if_neg (by omega)]
    rcases sq_1 hp h9 hl hy with r | r
    · rw [if_pos r, if_neg (by omega), r]
      rfl
    · rw [if_neg (by omega), if_pos r]
theorem inv_eq {p : Nat} {x ans : Int} (h : SPb p = true) (hm : (∃ j : Nat, 1 ≤ j ∧ j < p ∧ x % (p : Int) * (j : Int) % (p : Int) = 1 ∧ (∀ i : Nat, 1 ≤ i → i < j → x % (p : Int) * (i : Int) % (p : Int) ≠ 1) ∧ ans = j) ∨ (∀ i : Nat, 1 ≤ i → i < p → x % (p : Int) * (i : Int) % (p : Int) ≠ 1) ∧ ans = 0) : ((pmN (x % (p : Int)).toNat p (p - 2) : Nat) : Int) = ans := by
  obtain ⟨hp, h9, h4⟩ := SPb_p h
  have x0 := Int.emod_nonneg x (show (p : Int) ≠ 0 by omega)
  have x1 := Int.emod_lt_of_pos x (show (0 : Int) < p by omega)
  obtain ⟨a, ha⟩ := Int.eq_ofNat_of_zero_le x0
  rw [ha] at x1 hm ⊢
  rw [Int.toNat_natCast]
  have hl := pmN_lt (a := a) (p := p) (by omega) (p - 2)
  have cv : ∀ i : Nat, (a : Int) * (i : Int) % (p : Int) = ((a * i % p : Nat) : Int) := fun i => by
    rw [← Int.natCast_mul, ← Int.natCast_emod]
  rcases Nat.eq_zero_or_pos a with q | q
  · subst q
    have e : pmN 0 p (p - 2) = 0 := by
      rw [pmN_pow (by omega), Nat.zero_pow (by omega), Nat.zero_mod]
    rw [e]
    rcases hm with ⟨j, -, -, g, -⟩ | ⟨-, g⟩
    · rw [cv, Nat.zero_mul, Nat.zero_mod] at g
      omega
    · rw [g]; rfl
  · have hf := fer1 hp h9 (x := a) (by rw [Nat.mod_eq_of_lt (by omega)]; omega)
    have hy : a * pmN a p (p - 2) % p = 1 := by
      have e : a * a ^ (p - 2) = a ^ (p - 1) := by
        rw [Nat.mul_comm, ← Nat.pow_succ, show (p - 2).succ = p - 1 by omega]
      rw [pmN_pow (by omega), Nat.mul_mod, Nat.mod_mod, ← Nat.mul_mod, e]
      exact hf
    generalize pmN a p (p - 2) = y at hl hy ⊢
    have hy0 : 1 ≤ y := by
      rcases Nat.eq_zero_or_pos y with u | u
      · subst u; rw [Nat.mul_zero, Nat.zero_mod] at hy; omega
      · exact u
    rcases hm with ⟨j, j1, j2, g, -, r⟩ | ⟨g, -⟩
    · rw [cv] at g
      have g2 : a * j % p = 1 := by omega
      have e1 : j * (a * y) % p = j := by
        rw [Nat.mul_mod, hy, Nat.mul_one, Nat.mod_mod, Nat.mod_eq_of_lt j2]
      have e2 : y * (a * j) % p = y := by
        rw [Nat.mul_mod, g2, Nat.mul_one, Nat.mod_mod, Nat.mod_eq_of_lt hl]
      have e3 : j * (a * y) = y * (a * j) := by
        rw [Nat.mul_left_comm j a y, Nat.mul_left_comm y a j, Nat.mul_comm j y]
      rw [e3, e2] at e1
      rw [r, e1]
    · exact (g y hy0 hl (by rw [cv, hy]; rfl)).elim
/-! calm calls whose answers are compared -/
def EV (r' : Option Value) (w' : Wd) (o : Nat) (ans t2 : Int) : Prop := ∃ k nv : Int, r' = some (iI k) ∧ OV w' o nv ∧ (k = 0 → -2147483648 ≤ nv ∧ nv < 2147483648) ∧ (k = 0 → nv = ans) ∧ k = t2
theorem ev_no {w w' : Wd} {o : Nat} {ans t2 k : Int} (hO : OU w o) (h : w'.2 = w.2) (hk : k ≠ 0) (ht : k = t2) : EV (some (iI k)) w' o ans t2 := by
  obtain ⟨n0, s0, hO⟩ := hO
  exact ⟨k, n0, rfl, ⟨s0, by rw [h]; exact hO⟩, fun q => absurd q hk, fun q => absurd q hk, ht⟩
theorem ev_go {uu : Wd} {o : Nat} {ans zz t2 : Int} {sv : Value} (hz : -2147483648 ≤ zz ∧ zz < 2147483648) (e : some (iI zz) = some (iI ans)) (ha : -2147483648 ≤ ans ∧ ans < 2147483648) (ht : t2 = 0) : EV (some (iI 0)) (wset uu o (true, eO 9 [jJ zz, sv])) o ans t2 := ⟨0, zz, rfl, ⟨sv, wset_s⟩, fun _ => hz, fun _ => iI_inj (Option.some.inj e) hz ha, ht.symm⟩
theorem szV_eq {f : Nat → Int} {p k : Nat} {z : Int} (h : SpR f p k) (hz : 0 ≤ z ∧ z ≤ 7) : szV f z = szV (spF p k) z := by
  obtain ⟨-, f0, f1, f2, f3, f4, f5⟩ := h
  rcases (show z = 0 ∨ z = 1 ∨ z = 2 ∨ z = 3 ∨ z = 4 ∨ z = 5 ∨ z = 6 ∨ z = 7 by omega) with q | q | q | q | q | q | q | q <;> subst q <;> simp [szV, spF, f0, f1, f2, f3, f4, f5]
theorem dgV_cg {bs ss ba st pm le ri ct cm : Nat → Int} {pb : Nat → PT} {P Q : Nat → Nat} {sp : Nat → Nat → Int} (hr : RLx bs ss pb P Q ct ba st pm le ri sp cm) {rt rt2 : Nat → Int} (h1 : ∀ i, i < 3 → RT (bs i) (rt i)) (h2 : ∀ i, i < 3 → RT (ba i) (rt2 i)) : dgV bs ss rt (fun j => (pb j).1) (fun j => (pb j).2.1) (fun j => (pb j).2.2) (fun j => spF (P j) (Q j)) ct = dgV ba st rt2 pm le ri sp cm := by
  have a : ∀ i, i < 3 → ∀ x, dmW (bs i) (rt i) (ss i) x = dmW (ba i) (rt2 i) (st i) x := fun i hi x => by
    obtain ⟨e1, e2, -⟩ := hr.1 i hi
    have h := h1 i hi
    rw [e1] at h
    rw [e1, e2, RT_uniq h (h2 i hi)]
  have e1 : dm1 bs ss rt 3 = dm1 ba st rt2 3 := by
    show dmW (bs 2) (rt 2) (ss 2) (dmW (bs 1) (rt 1) (ss 1) (dmW (bs 0) (rt 0) (ss 0) 7685)) = dmW (ba 2) (rt2 2) (st 2) (dmW (ba 1) (rt2 1) (st 1) (dmW (ba 0) (rt2 0) (st 0) 7685))
    rw [a 2 (by omega), a 1 (by omega), a 0 (by omega)]
  have e2 : ∀ x, dm2 (fun j => (pb j).1) (fun j => (pb j).2.1) (fun j => (pb j).2.2) x 3 = dm2 pm le ri x 3 := fun x => by
    show dmP (dmP (dmP x (pb 0).1 (pb 0).2.1 (pb 0).2.2) (pb 1).1 (pb 1).2.1 (pb 1).2.2) (pb 2).1 (pb 2).2.1 (pb 2).2.2 = dmP (dmP (dmP x (pm 0) (le 0) (ri 0)) (pm 1) (le 1) (ri 1)) (pm 2) (le 2) (ri 2)
    rw [hr.2.1 0 (by omega), hr.2.1 1 (by omega), hr.2.1 2 (by omega)]
  have s : ∀ i, i < 3 → ∀ n : Nat, n ≤ 8 → ∀ x, dmS (spF (P i) (Q i)) x n = dmS (sp i) x n := fun i hi n => by
    induction n with
    | zero => intro _ x; rfl
    | succ n ih =>
      intro hn x
      show dmS (spF (P i) (Q i)) x n * 31 + szV (spF (P i) (Q i)) (n : Int) = dmS (sp i) x n * 31 + szV (sp i) (n : Int)
      rw [ih (by omega) x, szV_eq (hr.1 i hi).2.2 (show 0 ≤ (n : Int) ∧ (n : Int) ≤ 7 by omega)]
  have e3 : ∀ x, dm3 (fun j => spF (P j) (Q j)) x 3 = dm3 sp x 3 := fun x => by
    show dmS (spF (P 2) (Q 2)) (dmS (spF (P 1) (Q 1)) (dmS (spF (P 0) (Q 0)) x 8) 8) 8 = dmS (sp 2) (dmS (sp 1) (dmS (sp 0) x 8) 8) 8
    rw [s 0 (by omega) 8 (by omega), s 1 (by omega) 8 (by omega), s 2 (by omega) 8 (by omega)]
  have e5 : ∀ x, dm5 ct x 5 = dm5 cm x 5 := fun x => by
    show ((((x * 31 + ct 0) * 31 + ct 1) * 31 + ct 2) * 31 + ct 3) * 31 + ct 4 = ((((x * 31 + cm 0) * 31 + cm 1) * 31 + cm 2) * 31 + cm 3) * 31 + cm 4
    rw [hr.2.2 0 (by omega), hr.2.2 1 (by omega), hr.2.2 2 (by omega), hr.2.2 3 (by omega), hr.2.2 4 (by omega)]
  unfold dgV
  rw [e1, e2, e3, e5]
theorem bitV_r (v z : Int) : -1 ≤ bitV v z ∧ bitV v z ≤ 120 := by
  have h1 := hiB_r (aB v) 120
  have h2 := onB_r (aB v) 120
  have h3 := loB_r (aB v) 120
  unfold bitV
  split
  · omega
  · split <;> omega
theorem lfD_md {P Q : Int} : ∀ k, lfD P Q k % Q = P * 10 ^ k % Q
  | 0 => by
    show P % Q = P * 10 ^ 0 % Q
    rw [Int.pow_zero, Int.mul_one]
  | k + 1 => by
    show 10 * (lfD P Q k % Q) % Q = _
    rw [lfD_md k, Int.pow_succ, ← Int.mul_assoc, Int.mul_comm 10, Int.mul_emod (P * 10 ^ k) 10 Q, Int.mul_emod (P * 10 ^ k % Q) 10 Q, Int.emod_emod_of_dvd _ (Int.dvd_refl Q)]
theorem lfD_q {P Q : Int} (hQ : 0 < Q) (k : Nat) : lfD P Q (k + 1) / Q = P * 10 ^ (k + 1) / Q - 10 * (P * 10 ^ k / Q) := by
  show 10 * (lfD P Q k % Q) / Q = _
  rw [lfD_md k, Int.pow_succ, ← Int.mul_assoc]
  generalize P * 10 ^ k = A
  have h := Int.emod_add_mul_ediv A Q
  have e2 : Q * (10 * (A / Q)) = 10 * (Q * (A / Q)) := Int.mul_left_comm _ _ _
  have e : A * 10 = 10 * (A % Q) + Q * (10 * (A / Q)) := by omega
  rw [e, Int.add_mul_ediv_left _ _ (by omega)]
  omega
theorem Fe_dn {P Q : Int} (hQ : 0 < Q) (k : Nat) : P * 10 ^ k / Q = P * 10 ^ (k + 1) / Q / 10 := by
  rw [Int.ediv_ediv_of_nonneg (Int.le_of_lt hQ), Int.pow_succ, ← Int.mul_assoc, Int.mul_ediv_mul_of_pos_left _ _ (by decide)]
theorem alk_eq {b P Q : Int} (hQ : 0 < Q) {n m : Nat} (hn : n ≤ 17) (hm : m ≤ 17) (h : alkP b P Q n) (g1 : ∀ i, i < m → rpD b i (lfD P Q i / Q)) (g2 : m < 17 → ¬ rpD b m (lfD P Q m / Q)) : n = m := by
  obtain ⟨Y, y1, y2, y3⟩ := h
  have dn : ∀ e, e < 16 → Y (e + 1) / 10 = Y e := fun e he => RT_uniq (rt_dn (y1 (e + 1) (by omega))) (y1 e (by omega))
  have ag : ∀ d, d < n → P * 10 ^ (n - 1 - d) / Q = Y (n - 1 - d) := by
    intro d
    induction d with
    | zero => intro h; exact y3 (by omega)
    | succ d ih =>
      intro h
      have := ih (by omega)
      rw [show n - 1 - d = (n - 1 - (d + 1)) + 1 by omega] at this
      rw [Fe_dn hQ, this, dn _ (by omega)]
  have dg : ∀ e, e < 17 → (∀ i, i < e → P * 10 ^ i / Q = Y i) → (rpD b e (lfD P Q e / Q) ↔ P * 10 ^ e / Q = Y e) := by
    intro e he hpre
    have key : ∃ S' : Int, (e = 0 ∧ S' = 0 ∨ ∃ i, e = i + 1 ∧ RT (b * 100 ^ i) S') ∧ lfD P Q e / Q = P * 10 ^ e / Q - 10 * S' := by
      cases e with
      | zero => exact ⟨0, Or.inl ⟨rfl, rfl⟩, by show P / Q = _; rw [Int.pow_zero, Int.mul_one]; omega⟩
      | succ k => exact ⟨Y k, Or.inr ⟨k, rfl, y1 k (by omega)⟩, by rw [lfD_q hQ, hpre k (by omega)]⟩
    obtain ⟨S', s1, s2⟩ := key
    have hr : rpD b e (Y e - 10 * S') := ⟨Y e, S', y1 e (by omega), s1, rfl⟩
    constructor
    · intro q
      have := rpD_uniq q hr
      omega
    · intro q
      rw [s2, q]
      exact hr
  have mg : ∀ e, e ≤ m → ∀ i, i < e → P * 10 ^ i / Q = Y i := by
    intro e
    induction e with
    | zero => intro _ i hi; omega
    | succ e ih =>
      intro he i hi
      have ih := ih (by omega)
      by_cases q : i = e
      · subst q; exact (dg i (by omega) ih).mp (g1 i (by omega))
      · exact ih i (by omega)
  rcases Nat.lt_trichotomy n m with q | q | q
  · exact (y2 n (Nat.le_refl n) (by omega) (mg m (Nat.le_refl m) n q)).elim
  · exact q
  · have a1 := ag (n - 1 - m) (by omega)
    rw [show n - 1 - (n - 1 - m) = m by omega] at a1
    exact (g2 (by omega) ((dg m (by omega) (mg m (Nat.le_refl m))).mpr a1)).elim
theorem pw2_inj {b P Q : Int} (hb : 0 < b) (g : sol b P Q) (hP : 1 < P) {i j : Nat} (h : pw2 b P Q i = pw2 b P Q j) : i = j := by
  have st : ∀ i, (pw2 b P Q i).1 < (pw2 b P Q (i + 1)).1 := fun i => by
    have m := (pw2_mono hb g i).2
    have p := (pw2_sol hb g i).1
    have := Int.mul_le_mul_of_nonneg_left (show (2 : Int) ≤ P by omega) (Int.le_of_lt p)
    omega
  rcases Nat.lt_trichotomy i j with q | q | q
  · have h1 := (pw2_le hb g (j := i + 1) (j - (i + 1))).1
    rw [show i + 1 + (j - (i + 1)) = j by omega, ← h] at h1
    have := st i
    omega
  · exact q
  · have h1 := (pw2_le hb g (j := j + 1) (i - (j + 1))).1
    rw [show j + 1 + (i - (j + 1)) = i by omega, h] at h1
    have := st j
    omega
set_option maxHeartbeats 1000000 in
theorem e_part {τ ad : Nat → Nat} {w w' : Wd} {o : Nat} {bs ss ba st pm le ri ct cm : Nat → Int} {pb : Nat → PT} {P Q : Nat → Nat} {sp : Nat → Nat → Int} {th : Int} {t : Nat} (hg : GD ba st pm le ri sp cm th t) (hr : RLx bs ss pb P Q ct ba st pm le ri sp cm) (hO : OU w o)  {vi z : Int} {r' : Option Value} (h : (¬ ((0 ≤ vi ∧ vi ≤ 2)) ∧ r' = some (iI 1) ∧ w.1 ≤ w'.1 ∧ w'.2 = w.2) ∨ (((0 ≤ vi ∧ vi ≤ 2)) ∧ ¬ ((0 ≤ z ∧ z ≤ 5)) ∧ r' = some (iI 2) ∧ w.1 ≤ w'.1 ∧ w'.2 = w.2) ∨ (((0 ≤ vi ∧ vi ≤ 2)) ∧ ((0 ≤ z ∧ z ≤ 5)) ∧ r' = some (iI 0) ∧ ∃ (i : Nat), vi = (i : Int) ∧ ∃ (zz : Int) (uu : Wd) (sv : Value), (-2147483648 ≤ zz ∧ zz < 2147483648) ∧ (∃ r, (some (iI zz)) = some (iI (prV (bs i) r (ss i) z)) ∧ RT (bs i) r ∧ CS τ ad uu (bs) (ss) (pb) (P) (Q) (ct) ∧ KO τ w uu) ∧ w' = wset uu o (true, eO 9 [jJ zz, sv]))) {t2 ans : Int} (h2 : (¬ (0 ≤ vi ∧ vi ≤ 2) ∧ t2 = 1 ∧ ans = 0 ∨ (0 ≤ vi ∧ vi ≤ 2) ∧ ¬ (0 ≤ z ∧ z ≤ 5) ∧ t2 = 2 ∧ ans = 0 ∨ (0 ≤ vi ∧ vi ≤ 2) ∧ (0 ≤ z ∧ z ≤ 5) ∧ t2 = 0 ∧ ∃ r, RT (ba vi.toNat) r ∧ ans = prV (ba vi.toNat) r (st vi.toNat) z)) : EV r' w' o ans t2 := by
  rcases h with ⟨hb, rfl, h1, h3⟩ | ⟨hg1, hb, rfl, h1, h3⟩ | ⟨hg1, hg2, rfl, i, rfl, zz, uu, sv, hz, hp, rfl⟩
  · exact ev_no hO h3 (by omega) (by omega)
  · exact ev_no hO h3 (by omega) (by omega)
  · rcases h2 with ⟨c1, -⟩ | ⟨-, c1, -⟩ | ⟨c1, c2, c3, r2, e3, e4⟩
    · omega
    · omega
    · obtain ⟨r, e1, e2, -, -⟩ := hp
      obtain ⟨q1, q2, -⟩ := hr.1 i (by omega)
      simp only [Int.toNat_natCast] at e3 e4
      rw [q1] at e2
      rw [q1, q2] at e1
      have e5 := RT_uniq e2 e3
      subst e5
      have hv := prV_i (hg.1 i (by omega)) e2 (hg.2.1 i (by omega)) hg2
      rw [← e4] at e1 hv
      exact ev_go hz e1 hv c3
set_option maxHeartbeats 1000000 in
theorem e_period {τ ad : Nat → Nat} {w w' : Wd} {o : Nat} {bs ss ba st pm le ri ct cm : Nat → Int} {pb : Nat → PT} {P Q : Nat → Nat} {sp : Nat → Nat → Int} {th : Int} {t : Nat} (hg : GD ba st pm le ri sp cm th t) (hr : RLx bs ss pb P Q ct ba st pm le ri sp cm) (hO : OU w o)  {b : Int} {r' : Option Value} (h : (¬ (GB b) ∧ r' = some (iI 1) ∧ w.1 ≤ w'.1 ∧ w'.2 = w.2) ∨ ((GB b) ∧ r' = some (iI 0) ∧ ∃ (zz : Int) (uu : Wd) (sv : Value), (-2147483648 ≤ zz ∧ zz < 2147483648) ∧ (∃ (r : Int) (p : Nat), (some (iI zz)) = some (iI (p : Int)) ∧ RT b r ∧ isPer b r p ∧ CS τ ad uu (bs) (ss) (pb) (P) (Q) (ct) ∧ KO τ w uu) ∧ w' = wset uu o (true, eO 9 [jJ zz, sv]))) {t2 ans : Int} (h2 : (¬ GB b ∧ t2 = 1 ∧ ans = 0 ∨ GB b ∧ t2 = 0 ∧ ∃ (r : Int) (p : Nat), RT b r ∧ isPer b r p ∧ ans = p)) : EV r' w' o ans t2 := by
  rcases h with ⟨hb, rfl, h1, h3⟩ | ⟨hg2, rfl, zz, uu, sv, hz, hp, rfl⟩
  · exact ev_no hO h3 (by omega) (by rcases h2 with ⟨-, c, -⟩ | ⟨c, -⟩; exact c.symm; exact (hb c).elim)
  · rcases h2 with ⟨c1, -⟩ | ⟨c1, c3, r2, p2, e3, e4, e6⟩
    · exact (c1 hg2).elim
    · obtain ⟨r, p, e1, e2, e5, -, -⟩ := hp
      have e7 := RT_uniq e2 e3
      subst e7
      have e8 : p = p2 := by
        rcases Nat.lt_trichotomy p p2 with q | q | q
        · exact (e4.2.2.2 p e5.1 q e5.2.2.1).elim
        · exact q
        · exact (e5.2.2.2 p2 e4.1 q e4.2.2.1).elim
      subst e8
      have h16 := e5.2.1
      rw [← e6] at e1
      exact ev_go hz e1 (by omega) c3
set_option maxHeartbeats 1000000 in
theorem e_splitNumber {τ ad : Nat → Nat} {w w' : Wd} {o : Nat} {bs ss ba st pm le ri ct cm : Nat → Int} {pb : Nat → PT} {P Q : Nat → Nat} {sp : Nat → Nat → Int} {th : Int} {t : Nat} (hg : GD ba st pm le ri sp cm th t) (hr : RLx bs ss pb P Q ct ba st pm le ri sp cm) (hO : OU w o)  {vi z : Int} {r' : Option Value} (h : (¬ ((0 ≤ vi ∧ vi ≤ 2)) ∧ r' = some (iI 1) ∧ w.1 ≤ w'.1 ∧ w'.2 = w.2) ∨ (((0 ≤ vi ∧ vi ≤ 2)) ∧ ¬ ((0 ≤ z ∧ z ≤ 7)) ∧ r' = some (iI 2) ∧ w.1 ≤ w'.1 ∧ w'.2 = w.2) ∨ (((0 ≤ vi ∧ vi ≤ 2)) ∧ ((0 ≤ z ∧ z ≤ 7)) ∧ r' = some (iI 0) ∧ ∃ (i : Nat), vi = (i : Int) ∧ ∃ (zz : Int) (uu : Wd) (sv : Value), (-2147483648 ≤ zz ∧ zz < 2147483648) ∧ ((some (iI zz)) = some (iI (szV (spF (P i) (Q i)) z)) ∧ CS τ ad uu (bs) (ss) (pb) (P) (Q) (ct) ∧ KO τ w uu) ∧ w' = wset uu o (true, eO 9 [jJ zz, sv]))) {t2 ans : Int} (h2 : (¬ (0 ≤ vi ∧ vi ≤ 2) ∧ t2 = 1 ∧ ans = 0 ∨ (0 ≤ vi ∧ vi ≤ 2) ∧ ¬ (0 ≤ z ∧ z ≤ 7) ∧ t2 = 2 ∧ ans = 0 ∨ (0 ≤ vi ∧ vi ≤ 2) ∧ (0 ≤ z ∧ z ≤ 7) ∧ t2 = 0 ∧ ans = szV (sp vi.toNat) z)) : EV r' w' o ans t2 := by
  rcases h with ⟨hb, rfl, h1, h3⟩ | ⟨hg1, hb, rfl, h1, h3⟩ | ⟨hg1, hg2, rfl, i, rfl, zz, uu, sv, hz, hp, rfl⟩
  · exact ev_no hO h3 (by omega) (by omega)
  · exact ev_no hO h3 (by omega) (by omega)
  · rcases h2 with ⟨c1, -⟩ | ⟨-, c1, -⟩ | ⟨c1, c2, c3, e4⟩
    · omega
    · omega
    · obtain ⟨e1, -, -⟩ := hp
      obtain ⟨-, -, q3⟩ := hr.1 i (by omega)
      simp only [Int.toNat_natCast] at e4
      have e5 : szV (sp i) z = szV (spF (P i) (Q i)) z := szV_eq q3 hg2
      have hv := szV_i q3 hg2
      rw [← e5, ← e4] at e1
      rw [← e4] at hv
      exact ev_go hz e1 hv c3
set_option maxHeartbeats 1000000 in
theorem e_isPrime {τ ad : Nat → Nat} {w w' : Wd} {o : Nat} {bs ss ba st pm le ri ct cm : Nat → Int} {pb : Nat → PT} {P Q : Nat → Nat} {sp : Nat → Nat → Int} {th : Int} {t : Nat} (hg : GD ba st pm le ri sp cm th t) (hr : RLx bs ss pb P Q ct ba st pm le ri sp cm) (hO : OU w o)  {vn : Int} {r' : Option Value} (h : (¬ ((0 ≤ vn ∧ vn ≤ 999)) ∧ r' = some (iI 1) ∧ w.1 ≤ w'.1 ∧ w'.2 = w.2) ∨ (((0 ≤ vn ∧ vn ≤ 999)) ∧ r' = some (iI 0) ∧ ∃ (n : Nat), vn = (n : Int) ∧ ∃ (zz : Int) (uu : Wd) (sv : Value), (-2147483648 ≤ zz ∧ zz < 2147483648) ∧ ((some (iI zz)) = some (iI (bI (2 ≤ n ∧ prB n = true))) ∧ CS τ ad uu (bs) (ss) (pb) (P) (Q) (ct) ∧ KO τ w uu) ∧ w' = wset uu o (true, eO 9 [jJ zz, sv]))) {t2 ans : Int} (h2 : (¬ (0 ≤ vn ∧ vn ≤ 999) ∧ t2 = 1 ∧ ans = 0 ∨ (0 ≤ vn ∧ vn ≤ 999) ∧ t2 = 0 ∧ (ans = 1 ∧ (1 < vn.toNat ∧ prB vn.toNat = true) ∨ ans = 0 ∧ ¬ (1 < vn.toNat ∧ prB vn.toNat = true)))) : EV r' w' o ans t2 := by
  rcases h with ⟨hb, rfl, h1, h3⟩ | ⟨hg2, rfl, n, rfl, zz, uu, sv, hz, hp, rfl⟩
  · exact ev_no hO h3 (by omega) (by omega)
  · rcases h2 with ⟨c1, -⟩ | ⟨c1, c3, e4⟩
    · omega
    · obtain ⟨e1, -, -⟩ := hp
      simp only [Int.toNat_natCast] at e4
      rcases e4 with ⟨e4, e5⟩ | ⟨e4, e5⟩
      · rw [bI_t (show 2 ≤ n ∧ prB n = true from ⟨by omega, e5.2⟩), ← e4] at e1
        exact ev_go hz e1 (by omega) c3
      · rw [bI_f (show ¬ (2 ≤ n ∧ prB n = true) from fun q => e5 ⟨by omega, q.2⟩), ← e4] at e1
        exact ev_go hz e1 (by omega) c3
set_option maxHeartbeats 1000000 in
theorem e_symbol {τ ad : Nat → Nat} {w w' : Wd} {o : Nat} {bs ss ba st pm le ri ct cm : Nat → Int} {pb : Nat → PT} {P Q : Nat → Nat} {sp : Nat → Nat → Int} {th : Int} {t : Nat} (hg : GD ba st pm le ri sp cm th t) (hr : RLx bs ss pb P Q ct ba st pm le ri sp cm) (hO : OU w o)  {vi x : Int} {r' : Option Value} (h : (¬ ((0 ≤ vi ∧ vi ≤ 2)) ∧ r' = some (iI 1) ∧ w.1 ≤ w'.1 ∧ w'.2 = w.2) ∨ (((0 ≤ vi ∧ vi ≤ 2)) ∧ ¬ ((-999 ≤ x ∧ x ≤ 999)) ∧ r' = some (iI 2) ∧ w.1 ≤ w'.1 ∧ w'.2 = w.2) ∨ (((0 ≤ vi ∧ vi ≤ 2)) ∧ ((-999 ≤ x ∧ x ≤ 999)) ∧ r' = some (iI 0) ∧ ∃ (i : Nat), vi = (i : Int) ∧ ∃ (zz : Int) (uu : Wd) (sv : Value), (-2147483648 ≤ zz ∧ zz < 2147483648) ∧ ((some (iI zz)) = some (iI (if x % ((P i : Nat) : Int) = 0 then 0 else if pmN (x % ((P i : Nat) : Int)).toNat (P i) ((P i - 1) / 2) = 1 then 1 else -1)) ∧ CS τ ad uu (bs) (ss) (pb) (P) (Q) (ct) ∧ KO τ w uu) ∧ w' = wset uu o (true, eO 9 [jJ zz, sv]))) {t2 ans : Int} (h2 : (¬ (0 ≤ vi ∧ vi ≤ 2) ∧ t2 = 1 ∧ ans = 0 ∨ (0 ≤ vi ∧ vi ≤ 2) ∧ ¬ ((-999) ≤ x ∧ x ≤ 999) ∧ t2 = 2 ∧ ans = 0 ∨ (0 ≤ vi ∧ vi ≤ 2) ∧ ((-999) ≤ x ∧ x ≤ 999) ∧ t2 = 0 ∧ ∃ p k, SpR (sp vi.toNat) p k ∧ ans = if pmN (x % (p : Int)).toNat p ((p - 1) / 2) = p - 1 then -1 else ((pmN (x % (p : Int)).toNat p ((p - 1) / 2) : Nat) : Int))) : EV r' w' o ans t2 := by
  rcases h with ⟨hb, rfl, h1, h3⟩ | ⟨hg1, hb, rfl, h1, h3⟩ | ⟨hg1, hg2, rfl, i, rfl, zz, uu, sv, hz, hp, rfl⟩
  · exact ev_no hO h3 (by omega) (by omega)
  · exact ev_no hO h3 (by omega) (by omega)
  · rcases h2 with ⟨c1, -⟩ | ⟨-, c1, -⟩ | ⟨c1, c2, c3, p, k, e3, e4⟩
    · omega
    · omega
    · obtain ⟨e1, -, -⟩ := hp
      obtain ⟨-, -, q3⟩ := hr.1 i (by omega)
      simp only [Int.toNat_natCast] at e3
      obtain ⟨e5, e6⟩ := SpR_u e3 q3
      subst e5
      have h9 := (SPb_p q3.1.1).2.1
      have hl := pmN_lt (a := (x % ((P i : Nat) : Int)).toNat) (p := P i) (by omega) ((P i - 1) / 2)
      rw [sym_eq q3.1.1, ← e4] at e1
      exact ev_go hz e1 (by rw [e4]; split <;> omega) c3
set_option maxHeartbeats 1000000 in
theorem e_inverse {τ ad : Nat → Nat} {w w' : Wd} {o : Nat} {bs ss ba st pm le ri ct cm : Nat → Int} {pb : Nat → PT} {P Q : Nat → Nat} {sp : Nat → Nat → Int} {th : Int} {t : Nat} (hg : GD ba st pm le ri sp cm th t) (hr : RLx bs ss pb P Q ct ba st pm le ri sp cm) (hO : OU w o)  {vi x : Int} {r' : Option Value} (h : (¬ ((0 ≤ vi ∧ vi ≤ 2)) ∧ r' = some (iI 1) ∧ w.1 ≤ w'.1 ∧ w'.2 = w.2) ∨ (((0 ≤ vi ∧ vi ≤ 2)) ∧ ¬ ((-999 ≤ x ∧ x ≤ 999)) ∧ r' = some (iI 2) ∧ w.1 ≤ w'.1 ∧ w'.2 = w.2) ∨ (((0 ≤ vi ∧ vi ≤ 2)) ∧ ((-999 ≤ x ∧ x ≤ 999)) ∧ r' = some (iI 0) ∧ ∃ (i : Nat), vi = (i : Int) ∧ ∃ (zz : Int) (uu : Wd) (sv : Value), (-2147483648 ≤ zz ∧ zz < 2147483648) ∧ ((some (iI zz)) = some (iI ((pmN (x % ((P i : Nat) : Int)).toNat (P i) (P i - 2) : Nat) : Int)) ∧ CS τ ad uu (bs) (ss) (pb) (P) (Q) (ct) ∧ KO τ w uu) ∧ w' = wset uu o (true, eO 9 [jJ zz, sv]))) {t2 ans : Int} (h2 : (¬ (0 ≤ vi ∧ vi ≤ 2) ∧ t2 = 1 ∧ ans = 0 ∨ (0 ≤ vi ∧ vi ≤ 2) ∧ ¬ ((-999) ≤ x ∧ x ≤ 999) ∧ t2 = 2 ∧ ans = 0 ∨ (0 ≤ vi ∧ vi ≤ 2) ∧ ((-999) ≤ x ∧ x ≤ 999) ∧ t2 = 0 ∧ ∃ p k, SpR (sp vi.toNat) p k ∧ ((∃ j : Nat, 1 ≤ j ∧ j < p ∧ x % (p : Int) * (j : Int) % (p : Int) = 1 ∧ (∀ i : Nat, 1 ≤ i → i < j → x % (p : Int) * (i : Int) % (p : Int) ≠ 1) ∧ ans = j) ∨ (∀ i : Nat, 1 ≤ i → i < p → x % (p : Int) * (i : Int) % (p : Int) ≠ 1) ∧ ans = 0))) : EV r' w' o ans t2 := by
  rcases h with ⟨hb, rfl, h1, h3⟩ | ⟨hg1, hb, rfl, h1, h3⟩ | ⟨hg1, hg2, rfl, i, rfl, zz, uu, sv, hz, hp, rfl⟩
  · exact ev_no hO h3 (by omega) (by omega)
  · exact ev_no hO h3 (by omega) (by omega)
  · rcases h2 with ⟨c1, -⟩ | ⟨-, c1, -⟩ | ⟨c1, c2, c3, p, k, e3, e4⟩
    · omega
    · omega
    · obtain ⟨e1, -, -⟩ := hp
      obtain ⟨-, -, q3⟩ := hr.1 i (by omega)
      simp only [Int.toNat_natCast] at e3
      obtain ⟨e5, e6⟩ := SpR_u e3 q3
      subst e5
      have h9 := (SPb_p q3.1.1).2.1
      have hl := pmN_lt (a := (x % ((P i : Nat) : Int)).toNat) (p := P i) (by omega) (P i - 2)
      have e7 := inv_eq q3.1.1 e4
      rw [e7] at e1
      exact ev_go hz e1 (by rw [← e7]; omega) c3
set_option maxHeartbeats 1000000 in
theorem e_test {τ ad : Nat → Nat} {w w' : Wd} {o : Nat} {bs ss ba st pm le ri ct cm : Nat → Int} {pb : Nat → PT} {P Q : Nat → Nat} {sp : Nat → Nat → Int} {th : Int} {t : Nat} (hg : GD ba st pm le ri sp cm th t) (hr : RLx bs ss pb P Q ct ba st pm le ri sp cm) (hO : OU w o)  {vi z : Int} {r' : Option Value} (h : (¬ ((0 ≤ vi ∧ vi ≤ 2)) ∧ r' = some (iI 1) ∧ w.1 ≤ w'.1 ∧ w'.2 = w.2) ∨ (((0 ≤ vi ∧ vi ≤ 2)) ∧ ¬ ((0 ≤ z ∧ z ≤ 2)) ∧ r' = some (iI 2) ∧ w.1 ≤ w'.1 ∧ w'.2 = w.2) ∨ (((0 ≤ vi ∧ vi ≤ 2)) ∧ ((0 ≤ z ∧ z ≤ 2)) ∧ r' = some (iI 0) ∧ ∃ (i : Nat), vi = (i : Int) ∧ ∃ (zz : Int) (uu : Wd) (sv : Value), (-2147483648 ≤ zz ∧ zz < 2147483648) ∧ ((∃ x : Int, (some (iI zz)) = some (iI x) ∧ ∃ r, RT (bs i) r ∧ x = tstV (bs i) r (ss i).toNat z) ∧ CS τ ad uu (bs) (ss) (pb) (P) (Q) (ct) ∧ KO τ w uu) ∧ w' = wset uu o (true, eO 9 [jJ zz, sv]))) {t2 ans : Int} (h2 : (¬ (0 ≤ vi ∧ vi ≤ 2) ∧ t2 = 1 ∧ ans = 0 ∨ (0 ≤ vi ∧ vi ≤ 2) ∧ ¬ (0 ≤ z ∧ z ≤ 2) ∧ t2 = 2 ∧ ans = 0 ∨ (0 ≤ vi ∧ vi ≤ 2) ∧ (0 ≤ z ∧ z ≤ 2) ∧ t2 = 0 ∧ ∃ r, RT (ba vi.toNat) r ∧ ans = tstV (ba vi.toNat) r (st vi.toNat).toNat z)) : EV r' w' o ans t2 := by
  rcases h with ⟨hb, rfl, h1, h3⟩ | ⟨hg1, hb, rfl, h1, h3⟩ | ⟨hg1, hg2, rfl, i, rfl, zz, uu, sv, hz, hp, rfl⟩
  · exact ev_no hO h3 (by omega) (by omega)
  · exact ev_no hO h3 (by omega) (by omega)
  · rcases h2 with ⟨c1, -⟩ | ⟨-, c1, -⟩ | ⟨c1, c2, c3, r2, e3, e4⟩
    · omega
    · omega
    · obtain ⟨⟨x, e1, r, e2, e5⟩, -, -⟩ := hp
      obtain ⟨q1, q2, -⟩ := hr.1 i (by omega)
      simp only [Int.toNat_natCast] at e3 e4
      rw [q1] at e2
      rw [q1, q2] at e5
      have er := RT_uniq e2 e3
      subst er
      have hst := hg.2.1 i (by omega)
      have hv := tst_r (hg.1 i (by omega)) e2 (k := (st i).toNat) (by omega) z
      rw [e5, ← e4] at e1
      rw [← e4] at hv
      exact ev_go hz e1 (by omega) c3
set_option maxHeartbeats 1000000 in
theorem e_walkBits {τ ad : Nat → Nat} {w w' : Wd} {o : Nat} {bs ss ba st pm le ri ct cm : Nat → Int} {pb : Nat → PT} {P Q : Nat → Nat} {sp : Nat → Nat → Int} {th : Int} {t : Nat} (hg : GD ba st pm le ri sp cm th t) (hr : RLx bs ss pb P Q ct ba st pm le ri sp cm) (hO : OU w o)  {vi y z : Int} {r' : Option Value} (h : (¬ ((0 ≤ vi ∧ vi ≤ 2)) ∧ r' = some (iI 1) ∧ w.1 ≤ w'.1 ∧ w'.2 = w.2) ∨ (((0 ≤ vi ∧ vi ≤ 2)) ∧ ¬ ((0 ≤ z ∧ z ≤ 2)) ∧ r' = some (iI 2) ∧ w.1 ≤ w'.1 ∧ w'.2 = w.2) ∨ (((0 ≤ vi ∧ vi ≤ 2)) ∧ ((0 ≤ z ∧ z ≤ 2)) ∧ r' = some (iI 0) ∧ ∃ (i : Nat), vi = (i : Int) ∧ ∃ (zz : Int) (uu : Wd) (sv : Value), (-2147483648 ≤ zz ∧ zz < 2147483648) ∧ ((∃ x : Int, (some (iI zz)) = some (iI x) ∧ ∃ r, RT (bs i) r ∧ x = bitV (if y = 1 then (pq (bs i) r 1 r (ss i).toNat).1 else (pq (bs i) r 0 1 (ss i).toNat).1) z) ∧ CS τ ad uu (bs) (ss) (pb) (P) (Q) (ct) ∧ KO τ w uu) ∧ w' = wset uu o (true, eO 9 [jJ zz, sv]))) {t2 ans : Int} (h2 : (¬ (0 ≤ vi ∧ vi ≤ 2) ∧ t2 = 1 ∧ ans = 0 ∨ (0 ≤ vi ∧ vi ≤ 2) ∧ ¬ (0 ≤ z ∧ z ≤ 2) ∧ t2 = 2 ∧ ans = 0 ∨ (0 ≤ vi ∧ vi ≤ 2) ∧ (0 ≤ z ∧ z ≤ 2) ∧ t2 = 0 ∧ ∃ r, RT (ba vi.toNat) r ∧ ans = bitV (if y = 1 then (pq (ba vi.toNat) r 1 r (st vi.toNat).toNat).1 else (pq (ba vi.toNat) r 0 1 (st vi.toNat).toNat).1) z)) : EV r' w' o ans t2 := by
  rcases h with ⟨hb, rfl, h1, h3⟩ | ⟨hg1, hb, rfl, h1, h3⟩ | ⟨hg1, hg2, rfl, i, rfl, zz, uu, sv, hz, hp, rfl⟩
  · exact ev_no hO h3 (by omega) (by omega)
  · exact ev_no hO h3 (by omega) (by omega)
  · rcases h2 with ⟨c1, -⟩ | ⟨-, c1, -⟩ | ⟨c1, c2, c3, r2, e3, e4⟩
    · omega
    · omega
    · obtain ⟨⟨x, e1, r, e2, e5⟩, -, -⟩ := hp
      obtain ⟨q1, q2, -⟩ := hr.1 i (by omega)
      simp only [Int.toNat_natCast] at e3 e4
      rw [q1] at e2
      rw [q1, q2] at e5
      have er := RT_uniq e2 e3
      subst er
      have hst := hg.2.1 i (by omega)
      have hv := bitV_r (if y = 1 then (pq (ba i) r 1 r (st i).toNat).1 else (pq (ba i) r 0 1 (st i).toNat).1) z
      rw [e5, ← e4] at e1
      rw [← e4] at hv
      exact ev_go hz e1 (by omega) c3
set_option maxHeartbeats 1000000 in
theorem e_bit {τ ad : Nat → Nat} {w w' : Wd} {o : Nat} {bs ss ba st pm le ri ct cm : Nat → Int} {pb : Nat → PT} {P Q : Nat → Nat} {sp : Nat → Nat → Int} {th : Int} {t : Nat} (hg : GD ba st pm le ri sp cm th t) (hr : RLx bs ss pb P Q ct ba st pm le ri sp cm) (hO : OU w o)  {vi y vz : Int} {r' : Option Value} (h : (¬ ((0 ≤ vi ∧ vi ≤ 2)) ∧ r' = some (iI 1) ∧ w.1 ≤ w'.1 ∧ w'.2 = w.2) ∨ (((0 ≤ vi ∧ vi ≤ 2)) ∧ ¬ ((0 ≤ vz ∧ vz ≤ 119)) ∧ r' = some (iI 2) ∧ w.1 ≤ w'.1 ∧ w'.2 = w.2) ∨ (((0 ≤ vi ∧ vi ≤ 2)) ∧ ((0 ≤ vz ∧ vz ≤ 119)) ∧ r' = some (iI 0) ∧ ∃ (i : Nat) (z : Nat), vi = (i : Int) ∧ vz = (z : Int) ∧ ∃ (zz : Int) (uu : Wd) (sv : Value), (-2147483648 ≤ zz ∧ zz < 2147483648) ∧ ((∃ x : Int, (some (iI zz)) = some (iI x) ∧ (x = 0 ∨ x = 1) ∧ ∃ r, RT (bs i) r ∧ x = bI (bt (aB (if y = 1 then (pq (bs i) r 1 r (ss i).toNat).1 else (pq (bs i) r 0 1 (ss i).toNat).1)) z = 1)) ∧ CS τ ad uu (bs) (ss) (pb) (P) (Q) (ct) ∧ KO τ w uu) ∧ w' = wset uu o (true, eO 9 [jJ zz, sv]))) {t2 ans : Int} (h2 : (¬ (0 ≤ vi ∧ vi ≤ 2) ∧ t2 = 1 ∧ ans = 0 ∨ (0 ≤ vi ∧ vi ≤ 2) ∧ ¬ (0 ≤ vz ∧ vz ≤ 119) ∧ t2 = 2 ∧ ans = 0 ∨ (0 ≤ vi ∧ vi ≤ 2) ∧ (0 ≤ vz ∧ vz ≤ 119) ∧ t2 = 0 ∧ ∃ r, RT (ba vi.toNat) r ∧ ans = bI (bt (aB (if y = 1 then (pq (ba vi.toNat) r 1 r (st vi.toNat).toNat).1 else (pq (ba vi.toNat) r 0 1 (st vi.toNat).toNat).1)) vz.toNat = 1))) : EV r' w' o ans t2 := by
  rcases h with ⟨hb, rfl, h1, h3⟩ | ⟨hg1, hb, rfl, h1, h3⟩ | ⟨hg1, hg2, rfl, i, z, rfl, rfl, zz, uu, sv, hz, hp, rfl⟩
  · exact ev_no hO h3 (by omega) (by omega)
  · exact ev_no hO h3 (by omega) (by omega)
  · rcases h2 with ⟨c1, -⟩ | ⟨-, c1, -⟩ | ⟨c1, c2, c3, r2, e3, e4⟩
    · omega
    · omega
    · obtain ⟨⟨x, e1, -, r, e2, e5⟩, -, -⟩ := hp
      obtain ⟨q1, q2, -⟩ := hr.1 i (by omega)
      simp only [Int.toNat_natCast] at e3 e4
      rw [q1] at e2
      rw [q1, q2] at e5
      have er := RT_uniq e2 e3
      subst er
      have hst := hg.2.1 i (by omega)
      rw [e5, ← e4] at e1
      exact ev_go hz e1 (by rw [e4]; have := bI_01 (bt (aB (if y = 1 then (pq (ba i) r 1 r (st i).toNat).1 else (pq (ba i) r 0 1 (st i).toNat).1)) z = 1); omega) c3
set_option maxHeartbeats 1000000 in
theorem e_isNear {τ ad : Nat → Nat} {w w' : Wd} {o : Nat} {bs ss ba st pm le ri ct cm : Nat → Int} {pb : Nat → PT} {P Q : Nat → Nat} {sp : Nat → Nat → Int} {th : Int} {t : Nat} (hg : GD ba st pm le ri sp cm th t) (hr : RLx bs ss pb P Q ct ba st pm le ri sp cm) (hO : OU w o)  {vi z : Int} {r' : Option Value} (h : (¬ ((0 ≤ vi ∧ vi ≤ 2)) ∧ r' = some (iI 1) ∧ w.1 ≤ w'.1 ∧ w'.2 = w.2) ∨ (((0 ≤ vi ∧ vi ≤ 2)) ∧ ¬ ((1 ≤ z ∧ z ≤ 3)) ∧ r' = some (iI 2) ∧ w.1 ≤ w'.1 ∧ w'.2 = w.2) ∨ (((0 ≤ vi ∧ vi ≤ 2)) ∧ ((1 ≤ z ∧ z ≤ 3)) ∧ r' = some (iI 0) ∧ ∃ (i : Nat), vi = (i : Int) ∧ ∃ (zz : Int) (uu : Wd) (sv : Value), (-2147483648 ≤ zz ∧ zz < 2147483648) ∧ ((∃ x : Int, (some (iI zz)) = some (iI x) ∧ (x = 0 ∨ x = 1) ∧ ∃ r, RT (bs i) r ∧ (x = 1 ∧ nearP (bs i) r z (ss i).toNat ∨ x = 0 ∧ ¬ nearP (bs i) r z (ss i).toNat)) ∧ CS τ ad uu (bs) (ss) (pb) (P) (Q) (ct) ∧ KO τ w uu) ∧ w' = wset uu o (true, eO 9 [jJ zz, sv]))) {t2 ans : Int} (h2 : (¬ (0 ≤ vi ∧ vi ≤ 2) ∧ t2 = 1 ∧ ans = 0 ∨ (0 ≤ vi ∧ vi ≤ 2) ∧ ¬ (1 ≤ z ∧ z ≤ 3) ∧ t2 = 2 ∧ ans = 0 ∨ (0 ≤ vi ∧ vi ≤ 2) ∧ (1 ≤ z ∧ z ≤ 3) ∧ t2 = 0 ∧ ∃ r, RT (ba vi.toNat) r ∧ (ans = 1 ∧ nearP (ba vi.toNat) r z (st vi.toNat).toNat ∨ ans = 0 ∧ ¬ nearP (ba vi.toNat) r z (st vi.toNat).toNat))) : EV r' w' o ans t2 := by
  rcases h with ⟨hb, rfl, h1, h3⟩ | ⟨hg1, hb, rfl, h1, h3⟩ | ⟨hg1, hg2, rfl, i, rfl, zz, uu, sv, hz, hp, rfl⟩
  · exact ev_no hO h3 (by omega) (by omega)
  · exact ev_no hO h3 (by omega) (by omega)
  · rcases h2 with ⟨c1, -⟩ | ⟨-, c1, -⟩ | ⟨c1, c2, c3, r2, e3, e4⟩
    · omega
    · omega
    · obtain ⟨⟨x, e1, -, r, e2, e5⟩, -, -⟩ := hp
      obtain ⟨q1, q2, -⟩ := hr.1 i (by omega)
      simp only [Int.toNat_natCast] at e3 e4
      rw [q1] at e2
      rw [q1, q2] at e5
      have er := RT_uniq e2 e3
      subst er
      have hst := hg.2.1 i (by omega)
      have ex : x = ans ∧ (ans = 0 ∨ ans = 1) := by
        rcases e5 with ⟨f1, f2⟩ | ⟨f1, f2⟩
        · rcases e4 with ⟨d1, d2⟩ | ⟨d1, d2⟩
          · exact ⟨by omega, by omega⟩
          · exact (d2 f2).elim
        · rcases e4 with ⟨d1, d2⟩ | ⟨d1, d2⟩
          · exact (f2 d2).elim
          · exact ⟨by omega, by omega⟩
      rw [ex.1] at e1
      exact ev_go hz e1 (by have := ex.2; omega) c3
set_option maxHeartbeats 1000000 in
theorem e_alike {τ ad : Nat → Nat} {w w' : Wd} {o : Nat} {bs ss ba st pm le ri ct cm : Nat → Int} {pb : Nat → PT} {P Q : Nat → Nat} {sp : Nat → Nat → Int} {th : Int} {t : Nat} (hg : GD ba st pm le ri sp cm th t) (hr : RLx bs ss pb P Q ct ba st pm le ri sp cm) (hO : OU w o)  {vi : Int} {r' : Option Value} (h : (¬ ((0 ≤ vi ∧ vi ≤ 2)) ∧ r' = some (iI 1) ∧ w.1 ≤ w'.1 ∧ w'.2 = w.2) ∨ (((0 ≤ vi ∧ vi ≤ 2)) ∧ r' = some (iI 0) ∧ ∃ (i : Nat), vi = (i : Int) ∧ ∃ (zz : Int) (uu : Wd) (sv : Value), (-2147483648 ≤ zz ∧ zz < 2147483648) ∧ ((∃ x : Int, (some (iI zz)) = some (iI x) ∧ ∃ r, RT (bs i) r ∧ ∃ n : Nat, n ≤ 17 ∧ x = (n : Int) - 1 ∧ alkP (bs i) (pq (bs i) r 1 r (ss i).toNat).1 (pq (bs i) r 0 1 (ss i).toNat).1 n) ∧ CS τ ad uu (bs) (ss) (pb) (P) (Q) (ct) ∧ KO τ w uu) ∧ w' = wset uu o (true, eO 9 [jJ zz, sv]))) {t2 ans : Int} (h2 : (¬ (0 ≤ vi ∧ vi ≤ 2) ∧ t2 = 1 ∧ ans = 0 ∨ (0 ≤ vi ∧ vi ≤ 2) ∧ t2 = 0 ∧ ∃ r, RT (ba vi.toNat) r ∧ ∃ n : Nat, n ≤ 17 ∧ ans = n - 1 ∧ (∀ i, i < n → rpD (ba vi.toNat) i (lfD (pq (ba vi.toNat) r 1 r (st vi.toNat).toNat).1 (pq (ba vi.toNat) r 0 1 (st vi.toNat).toNat).1 i / (pq (ba vi.toNat) r 0 1 (st vi.toNat).toNat).1)) ∧ (n < 17 → ¬ rpD (ba vi.toNat) n (lfD (pq (ba vi.toNat) r 1 r (st vi.toNat).toNat).1 (pq (ba vi.toNat) r 0 1 (st vi.toNat).toNat).1 n / (pq (ba vi.toNat) r 0 1 (st vi.toNat).toNat).1)))) : EV r' w' o ans t2 := by
  rcases h with ⟨hb, rfl, h1, h3⟩ | ⟨hg1, rfl, i, rfl, zz, uu, sv, hz, hp, rfl⟩
  · exact ev_no hO h3 (by omega) (by omega)
  · rcases h2 with ⟨c1, -⟩ | ⟨c1, c3, r2, e3, n2, hn2, e4, e7, e8⟩
    · omega
    · obtain ⟨⟨x, e1, r, e2, n, hn, e5, e6⟩, -, -⟩ := hp
      obtain ⟨q1, q2, -⟩ := hr.1 i (by omega)
      simp only [Int.toNat_natCast] at e3 e7 e8
      rw [q1] at e2
      rw [q1, q2] at e6
      have er := RT_uniq e2 e3
      subst er
      have hst := hg.2.1 i (by omega)
      have hQ := (wk_f (hg.1 i (by omega)) e2 (k := (st i).toNat) (by omega)).2.2.2.2.2.1
      have en := alk_eq hQ hn hn2 e6 e7 e8
      rw [show x = ans by omega] at e1
      exact ev_go hz e1 (by omega) c3
set_option maxHeartbeats 1000000 in
theorem e_pairBase {τ ad : Nat → Nat} {w w' : Wd} {o : Nat} {bs ss ba st pm le ri ct cm : Nat → Int} {pb : Nat → PT} {P Q : Nat → Nat} {sp : Nat → Nat → Int} {th : Int} {t : Nat} (hg : GD ba st pm le ri sp cm th t) (hr : RLx bs ss pb P Q ct ba st pm le ri sp cm) (hO : OU w o)  {vi : Int} {r' : Option Value} (h : (¬ ((0 ≤ vi ∧ vi ≤ 2)) ∧ r' = some (iI 1) ∧ w.1 ≤ w'.1 ∧ w'.2 = w.2) ∨ (((0 ≤ vi ∧ vi ≤ 2)) ∧ r' = some (iI 0) ∧ ∃ (i : Nat), vi = (i : Int) ∧ ∃ (zz : Int) (uu : Wd) (sv : Value), (-2147483648 ≤ zz ∧ zz < 2147483648) ∧ ((some (iI zz)) = some (iI (pb i).1) ∧ CS τ ad uu (bs) (ss) (pb) (P) (Q) (ct) ∧ KO τ w uu) ∧ w' = wset uu o (true, eO 9 [jJ zz, sv]))) {t2 ans : Int} (h2 : (¬ (0 ≤ vi ∧ vi ≤ 2) ∧ t2 = 1 ∧ ans = 0 ∨ (0 ≤ vi ∧ vi ≤ 2) ∧ t2 = 0 ∧ ans = pm vi.toNat)) : EV r' w' o ans t2 := by
  rcases h with ⟨hb, rfl, h1, h3⟩ | ⟨hg1, rfl, i, rfl, zz, uu, sv, hz, hp, rfl⟩
  · exact ev_no hO h3 (by omega) (by omega)
  · rcases h2 with ⟨c1, -⟩ | ⟨c1, c3, e4⟩
    · omega
    · obtain ⟨e1, -, -⟩ := hp
      rw [hr.2.1 i (by omega)] at e1
      dsimp only at e1
      simp only [Int.toNat_natCast] at e4
      have hv := (hg.2.2.1 i (by omega)).1
      have hv1 := hv.1
      have hv2 := hv.2.1
      rw [← e4] at e1 hv1 hv2
      exact ev_go hz e1 (by omega) c3
set_option maxHeartbeats 1000000 in
theorem e_pairBits {τ ad : Nat → Nat} {w w' : Wd} {o : Nat} {bs ss ba st pm le ri ct cm : Nat → Int} {pb : Nat → PT} {P Q : Nat → Nat} {sp : Nat → Nat → Int} {th : Int} {t : Nat} (hg : GD ba st pm le ri sp cm th t) (hr : RLx bs ss pb P Q ct ba st pm le ri sp cm) (hO : OU w o)  {vi y z : Int} {r' : Option Value} (h : (¬ ((0 ≤ vi ∧ vi ≤ 2)) ∧ r' = some (iI 1) ∧ w.1 ≤ w'.1 ∧ w'.2 = w.2) ∨ (((0 ≤ vi ∧ vi ≤ 2)) ∧ ¬ ((0 ≤ z ∧ z ≤ 2)) ∧ r' = some (iI 2) ∧ w.1 ≤ w'.1 ∧ w'.2 = w.2) ∨ (((0 ≤ vi ∧ vi ≤ 2)) ∧ ((0 ≤ z ∧ z ≤ 2)) ∧ r' = some (iI 0) ∧ ∃ (i : Nat), vi = (i : Int) ∧ ∃ (zz : Int) (uu : Wd) (sv : Value), (-2147483648 ≤ zz ∧ zz < 2147483648) ∧ ((some (iI zz)) = some (iI (bitV (sdV y (pb i)) z)) ∧ CS τ ad uu (bs) (ss) (pb) (P) (Q) (ct) ∧ KO τ w uu) ∧ w' = wset uu o (true, eO 9 [jJ zz, sv]))) {t2 ans : Int} (h2 : (¬ (0 ≤ vi ∧ vi ≤ 2) ∧ t2 = 1 ∧ ans = 0 ∨ (0 ≤ vi ∧ vi ≤ 2) ∧ ¬ (0 ≤ z ∧ z ≤ 2) ∧ t2 = 2 ∧ ans = 0 ∨ (0 ≤ vi ∧ vi ≤ 2) ∧ (0 ≤ z ∧ z ≤ 2) ∧ t2 = 0 ∧ ans = bitV (if y = 1 then le vi.toNat else ri vi.toNat) z)) : EV r' w' o ans t2 := by
  rcases h with ⟨hb, rfl, h1, h3⟩ | ⟨hg1, hb, rfl, h1, h3⟩ | ⟨hg1, hg2, rfl, i, rfl, zz, uu, sv, hz, hp, rfl⟩
  · exact ev_no hO h3 (by omega) (by omega)
  · exact ev_no hO h3 (by omega) (by omega)
  · rcases h2 with ⟨c1, -⟩ | ⟨-, c1, -⟩ | ⟨c1, c2, c3, e4⟩
    · omega
    · omega
    · obtain ⟨e1, -, -⟩ := hp
      rw [hr.2.1 i (by omega)] at e1
      unfold sdV at e1
      dsimp only at e1
      simp only [Int.toNat_natCast] at e4
      have hv := bitV_r (if y = 1 then le i else ri i) z
      rw [← e4] at e1 hv
      exact ev_go hz e1 (by omega) c3
set_option maxHeartbeats 1000000 in
theorem e_rank {τ ad : Nat → Nat} {w w' : Wd} {o : Nat} {bs ss ba st pm le ri ct cm : Nat → Int} {pb : Nat → PT} {P Q : Nat → Nat} {sp : Nat → Nat → Int} {th : Int} {t : Nat} (hg : GD ba st pm le ri sp cm th t) (hr : RLx bs ss pb P Q ct ba st pm le ri sp cm) (hO : OU w o)  {vi : Int} {r' : Option Value} (h : (¬ ((0 ≤ vi ∧ vi ≤ 2)) ∧ r' = some (iI 1) ∧ w.1 ≤ w'.1 ∧ w'.2 = w.2) ∨ (((0 ≤ vi ∧ vi ≤ 2)) ∧ r' = some (iI 0) ∧ ∃ (i : Nat), vi = (i : Int) ∧ ∃ (zz : Int) (uu : Wd) (sv : Value), (-2147483648 ≤ zz ∧ zz < 2147483648) ∧ ((∃ x : Int, (some (iI zz)) = some (iI x) ∧ rnkP (pb i) x) ∧ (∃ pb' : Nat → PT, (∀ j, j < 3 → pb' j = pb j) ∧ CS τ ad uu (bs) (ss) (pb') (P) (Q) (ct)) ∧ KO τ w uu) ∧ w' = wset uu o (true, eO 9 [jJ zz, sv]))) {t2 ans : Int} (h2 : (¬ (0 ≤ vi ∧ vi ≤ 2) ∧ t2 = 1 ∧ ans = 0 ∨ (0 ≤ vi ∧ vi ≤ 2) ∧ t2 = 0 ∧ (ans = -1 ∧ ¬ le vi.toNat * le vi.toNat - pm vi.toNat * (ri vi.toNat * ri vi.toNat) = 1 ∨ le vi.toNat * le vi.toNat - pm vi.toNat * (ri vi.toNat * ri vi.toNat) = 1 ∧ ∃ (r : Int) (j : Nat), RT (pm vi.toNat) r ∧ ans = j ∧ pw2 (pm vi.toNat) (leaP (pm vi.toNat) r) (leaQ (pm vi.toNat) r) j = (aB (le vi.toNat), aB (ri vi.toNat))))) : EV r' w' o ans t2 := by
  rcases h with ⟨hb, rfl, h1, h3⟩ | ⟨hg1, rfl, i, rfl, zz, uu, sv, hz, hp, rfl⟩
  · exact ev_no hO h3 (by omega) (by omega)
  · rcases h2 with ⟨c1, -⟩ | ⟨c1, c3, e4⟩
    · omega
    · obtain ⟨⟨x, e1, e5⟩, -, -⟩ := hp
      obtain ⟨k1, k2, k3⟩ := hg.2.2.1 i (by omega)
      simp only [Int.toNat_natCast] at e4
      unfold rnkP at e5
      rw [hr.2.1 i (by omega)] at e5
      dsimp only at e5
      have ex : x = ans ∧ -1 ≤ ans ∧ ans ≤ 42 := by
        rcases e5 with ⟨f1, f2⟩ | ⟨f1, r1, j1, f3, f4, f5⟩
        · rcases e4 with ⟨d1, d2⟩ | ⟨d1, r2, j2, d3, d4, d5⟩
          · exact ⟨by omega, by omega, by omega⟩
          · exact (f2 d1).elim
        · rcases e4 with ⟨d1, d2⟩ | ⟨d1, r2, j2, d3, d4, d5⟩
          · exact (d2 f1).elim
          · have er := RT_uniq f3 d3
            subst er
            have hb := k1.1
            obtain ⟨l1, l2, l3, l4, l5⟩ := lea_ok k1 f3
            have g : sol (pm i) (leaP (pm i) r1) (leaQ (pm i) r1) := ⟨by omega, by omega, l5⟩
            have ej := pw2_inj (by omega) g l1 (f5.trans d5.symm)
            have h42 := rk_42 (by omega) g l1 d5 (Int.not_le.mp k2)
            exact ⟨by omega, by omega, by omega⟩
      rw [ex.1] at e1
      exact ev_go hz e1 (by have := ex.2; omega) c3
set_option maxHeartbeats 1000000 in
theorem e_order {τ ad : Nat → Nat} {w w' : Wd} {o : Nat} {bs ss ba st pm le ri ct cm : Nat → Int} {pb : Nat → PT} {P Q : Nat → Nat} {sp : Nat → Nat → Int} {th : Int} {t : Nat} (hg : GD ba st pm le ri sp cm th t) (hr : RLx bs ss pb P Q ct ba st pm le ri sp cm) (hO : OU w o)  {vi vk y : Int} {r' : Option Value} (h : (¬ ((0 ≤ vi ∧ vi ≤ 2) ∧ (0 ≤ vk ∧ vk ≤ 2)) ∧ r' = some (iI 1) ∧ w.1 ≤ w'.1 ∧ w'.2 = w.2) ∨ (((0 ≤ vi ∧ vi ≤ 2) ∧ (0 ≤ vk ∧ vk ≤ 2)) ∧ r' = some (iI 0) ∧ ∃ (i : Nat) (k : Nat), vi = (i : Int) ∧ vk = (k : Int) ∧ ∃ (zz : Int) (uu : Wd) (sv : Value), (-2147483648 ≤ zz ∧ zz < 2147483648) ∧ ((∃ x : Int, (some (iI zz)) = some (iI x) ∧ (sdV y (pb i) < sdV y (pb k) ∧ x = -1 ∨ sdV y (pb i) = sdV y (pb k) ∧ x = 0 ∨ sdV y (pb k) < sdV y (pb i) ∧ x = 1)) ∧ CS τ ad uu (bs) (ss) (pb) (P) (Q) (ct) ∧ KO τ w uu) ∧ w' = wset uu o (true, eO 9 [jJ zz, sv]))) {t2 ans : Int} (h2 : (¬ ((0 ≤ vi ∧ vi ≤ 2) ∧ (0 ≤ vk ∧ vk ≤ 2)) ∧ t2 = 1 ∧ ans = 0 ∨ ((0 ≤ vi ∧ vi ≤ 2) ∧ (0 ≤ vk ∧ vk ≤ 2)) ∧ t2 = 0 ∧ ((if y = 1 then le vi.toNat else ri vi.toNat) < (if y = 1 then le vk.toNat else ri vk.toNat) ∧ ans = -1 ∨ (if y = 1 then le vi.toNat else ri vi.toNat) = (if y = 1 then le vk.toNat else ri vk.toNat) ∧ ans = 0 ∨ (if y = 1 then le vk.toNat else ri vk.toNat) < (if y = 1 then le vi.toNat else ri vi.toNat) ∧ ans = 1))) : EV r' w' o ans t2 := by
  rcases h with ⟨hb, rfl, h1, h3⟩ | ⟨hg1, rfl, i, k, rfl, rfl, zz, uu, sv, hz, hp, rfl⟩
  · exact ev_no hO h3 (by omega) (by omega)
  · rcases h2 with ⟨c1, -⟩ | ⟨c1, c3, e4⟩
    · omega
    · obtain ⟨⟨x, e1, e5⟩, -, -⟩ := hp
      unfold sdV at e5
      rw [hr.2.1 i (by omega), hr.2.1 k (by omega)] at e5
      dsimp only at e5
      simp only [Int.toNat_natCast] at e4
      have ex : x = ans ∧ -1 ≤ ans ∧ ans ≤ 1 := by
        generalize (if y = 1 then le i else ri i) = A at *
        generalize (if y = 1 then le k else ri k) = B at *
        omega
      rw [ex.1] at e1
      exact ev_go hz e1 (by have := ex.2; omega) c3
set_option maxHeartbeats 1000000 in
theorem e_isSame {τ ad : Nat → Nat} {w w' : Wd} {o : Nat} {bs ss ba st pm le ri ct cm : Nat → Int} {pb : Nat → PT} {P Q : Nat → Nat} {sp : Nat → Nat → Int} {th : Int} {t : Nat} (hg : GD ba st pm le ri sp cm th t) (hr : RLx bs ss pb P Q ct ba st pm le ri sp cm) (hO : OU w o)  {vi vk : Int} {r' : Option Value} (h : (¬ ((0 ≤ vi ∧ vi ≤ 2) ∧ (0 ≤ vk ∧ vk ≤ 2)) ∧ r' = some (iI 1) ∧ w.1 ≤ w'.1 ∧ w'.2 = w.2) ∨ (((0 ≤ vi ∧ vi ≤ 2) ∧ (0 ≤ vk ∧ vk ≤ 2)) ∧ r' = some (iI 0) ∧ ∃ (i : Nat) (k : Nat), vi = (i : Int) ∧ vk = (k : Int) ∧ ∃ (zz : Int) (uu : Wd) (sv : Value), (-2147483648 ≤ zz ∧ zz < 2147483648) ∧ ((∃ x : Int, (some (iI zz)) = some (iI x) ∧ (x = 0 ∨ x = 1) ∧ x = bI ((pb i).1 = (pb k).1 ∧ (pb i).2.1 = (pb k).2.1 ∧ (pb i).2.2 = (pb k).2.2)) ∧ CS τ ad uu (bs) (ss) (pb) (P) (Q) (ct) ∧ KO τ w uu) ∧ w' = wset uu o (true, eO 9 [jJ zz, sv]))) {t2 ans : Int} (h2 : (¬ ((0 ≤ vi ∧ vi ≤ 2) ∧ (0 ≤ vk ∧ vk ≤ 2)) ∧ t2 = 1 ∧ ans = 0 ∨ ((0 ≤ vi ∧ vi ≤ 2) ∧ (0 ≤ vk ∧ vk ≤ 2)) ∧ t2 = 0 ∧ ans = bI (pm vi.toNat = pm vk.toNat ∧ le vi.toNat = le vk.toNat ∧ ri vi.toNat = ri vk.toNat))) : EV r' w' o ans t2 := by
  rcases h with ⟨hb, rfl, h1, h3⟩ | ⟨hg1, rfl, i, k, rfl, rfl, zz, uu, sv, hz, hp, rfl⟩
  · exact ev_no hO h3 (by omega) (by omega)
  · rcases h2 with ⟨c1, -⟩ | ⟨c1, c3, e4⟩
    · omega
    · obtain ⟨⟨x, e1, -, e5⟩, -, -⟩ := hp
      rw [hr.2.1 i (by omega), hr.2.1 k (by omega)] at e5
      dsimp only at e5
      simp only [Int.toNat_natCast] at e4
      have hv := bI_01 (pm i = pm k ∧ le i = le k ∧ ri i = ri k)
      rw [e5, ← e4] at e1
      rw [← e4] at hv
      exact ev_go hz e1 (by omega) c3
set_option maxHeartbeats 1000000 in
theorem e_house {τ ad : Nat → Nat} {w w' : Wd} {o : Nat} {bs ss ba st pm le ri ct cm : Nat → Int} {pb : Nat → PT} {P Q : Nat → Nat} {sp : Nat → Nat → Int} {th : Int} {t : Nat} (hg : GD ba st pm le ri sp cm th t) (hr : RLx bs ss pb P Q ct ba st pm le ri sp cm) (hO : OU w o) (ht : t < 2000) {z : Int} {r' : Option Value} (h : (¬ ((0 ≤ z ∧ z ≤ 4)) ∧ r' = some (iI 1) ∧ w.1 ≤ w'.1 ∧ w'.2 = w.2) ∨ (((0 ≤ z ∧ z ≤ 4)) ∧ r' = some (iI 0) ∧ ∃ (zz : Int) (uu : Wd) (sv : Value), (-2147483648 ≤ zz ∧ zz < 2147483648) ∧ ((some (iI zz)) = some (iI (ct z.toNat)) ∧ CS τ ad uu (bs) (ss) (pb) (P) (Q) (ct) ∧ KO τ w uu) ∧ w' = wset uu o (true, eO 9 [jJ zz, sv]))) {t2 ans : Int} (h2 : (¬ (0 ≤ z ∧ z ≤ 4) ∧ t2 = 1 ∧ ans = 0 ∨ (0 ≤ z ∧ z ≤ 4) ∧ t2 = 0 ∧ ans = cm z.toNat)) : EV r' w' o ans t2 := by
  rcases h with ⟨hb, rfl, h1, h3⟩ | ⟨hg2, rfl, zz, uu, sv, hz, hp, rfl⟩
  · exact ev_no hO h3 (by omega) (by omega)
  · rcases h2 with ⟨c1, -⟩ | ⟨c1, c3, e4⟩
    · omega
    · obtain ⟨e1, -, -⟩ := hp
      have hv := hg.2.2.2.2.2 z.toNat (by omega)
      rw [hr.2.2 z.toNat (by omega), ← e4] at e1
      rw [← e4] at hv
      exact ev_go hz e1 (by omega) c3
/-! the law's body -/
def SRX (E : GE) (X : XT) (b N : Nat) (f : Nat → Int) : Prop := va_X b N (fun j => Int32.ofInt (f j)) (xs X) (xs X).heap ∧ b < (xs X).heap.size ∧ ¬ gA E b ∧ (∀ j, -2147483648 ≤ f j ∧ f j < 2147483648) ∧ N ≤ 320
theorem g_sld {E X own cc nL ret pc L st w k n} (i : Nat) (C : CX E X own cc nL ret) {b N : Nat} {f : Nat → Int} {z : Int} (h : SRX E X b N f) (hz : z = i) (hi : i < N) (d : decode cc pc = .ok (.iaload, 1)) (kk : G E X nL (pc + 1) L (iI (f i) :: st) w k n) : G E X nL pc L (iI z :: .ref b :: st) w k n := by
  intro H locs ls h1 h2 h3
  obtain ⟨g1, g2, g3, g4, g5⟩ := h
  subst hz
  have hin : vp_in (Int32.ofInt (i : Int)) N := i_in (by omega) (by omega) (by omega)
  refine va_sld C.ex C.co g1 g2 g3 h2 hin d ?_
  show xW X H locs k n (F0 (xm X) (pc + 1) ls (.int (Int32.ofInt (f (Int32.ofInt (i : Int)).toNatClampNeg)) :: st))
  rw [i_nat (by omega) (by omega), Int.toNat_natCast]
  exact kk H locs ls h1 h2 h3
theorem g_slen {E X own cc nL ret pc L st w k n} (C : CX E X own cc nL ret) {b N : Nat} {f : Nat → Int} (h : SRX E X b N f) (d : decode cc pc = .ok (.arraylength, 1)) (kk : G E X nL (pc + 1) L (iI (N : Int) :: st) w k n) : G E X nL pc L (.ref b :: st) w k n := by
  intro H locs ls h1 h2 h3
  obtain ⟨g1, g2, g3, g4, g5⟩ := h
  refine va_slen C.ex C.co g1 g2 g3 h2 d ?_
  rw [show Int32.ofNat N = Int32.ofInt (N : Int) from Int32.ofInt_eq_ofNat.symm]
  exact kk H locs ls h1 h2 h3
theorem g_bool {E X own cc nL ret pc L st w k n} (C : CX E X own cc nL ret) {v : Int} (hv : -2147483648 ≤ v ∧ v < 2147483648) (d0 : decode cc pc = .ok (.ifCond .eq 7, 3)) (d3 : decode cc (pc + 3) = .ok (.iconst 1, 1)) (d4 : decode cc (pc + 4) = .ok (.goto 4, 3)) (d7 : decode cc (pc + 7) = .ok (.iconst 0, 1)) (kk : G E X nL (pc + 8) L (iI (bI (v ≠ 0)) :: st) w k n) : G E X nL pc L (iI v :: st) w k n := by
  refine g_if_eq (tgt := pc + 7) C d0 (by omega) hv (fun h => ?_) (fun h => ?_)
  · rw [bI_f (by omega)] at kk
    exact g_iconst C d7 kk
  · rw [bI_t (by omega)] at kk
    exact g_iconst C d3 (g_goto (pc := pc + 4) (tgt := pc + 8) C d4 (by omega) kk)
def LawX (K : KC) (E : GE) (X : XT) (b N : Nat) (f : Nat → Int) : Prop := CX E X RL cL_law 7 (some .boolean) ∧ HT K E (xs X) (xs X).heap ∧ HX (xs X) ∧ (xl X).stackTraces = false ∧ ((xR X).frames = 2048 ∧ (xR X).locals = 84000 ∧ (xR X).cells = 929463 ∧ (xR X).slots = 6313092) ∧ SRX E X b N f
abbrev LL (b x m o t : Nat) : List (Option Value) := [some (.ref b), some (.ref x), some (.ref m), some (.ref o), some (iI (5 * t : Int)), none, none]
set_option maxHeartbeats 4000000 in
set_option maxRecDepth 100000 in
theorem lc_open {K : KC} {E : GE} {X : XT} {b N : Nat} {f : Nat → Int} {x m o t k n : Nat} {w : Wd} (LX : LawX K E X b N f) (ht : 5 * t + 5 ≤ N) (hI : INV x m o t w) (hk : k + 2000 ≤ 929463) (hn : n + 80000 ≤ 6313092) (kk : ∀ w', INV x m o (t + 1) w' → G E X 7 2213 (LL b x m o t) [] w' (k + 2000) (n + 80000)) : G E X 7 248 (LL b x m o t) [] w k n := by
  obtain ⟨C, hT, hH, hls, ⟨hRf, hRl, hRc, hRs⟩, hS⟩ := LX
  have hf := hS.2.2.2.1
  have hN := hS.2.2.2.2
  obtain ⟨τ, ad, bs, ss, pb, P, Q, ct, A, th, ba, st, pm, le, ri, sp, cm, hC, hM, hx, ho, ⟨n0, s0, hO0⟩, hg, hr⟩ := hI
  subst hx
  refine g_wf (fun hwf => ?_)
  refine g_aload_n C dL_law_248 rfl ?_
  refine g_aload_n C dL_law_249 rfl ?_
  refine g_iload C dL_law_250 rfl ?_
  refine g_iconst C dL_law_252 ?_
  refine g_iadd C dL_law_253 ?_
  refine g_sld (5 * t + 1) C hS (by omega) (by omega) dL_law_254 ?_
  refine g_aload_n C dL_law_255 rfl ?_
  refine g_iload C dL_law_256 rfl ?_
  refine g_iconst C dL_law_258 ?_
  refine g_iadd C dL_law_259 ?_
  refine g_sld (5 * t + 2) C hS (by omega) (by omega) dL_law_260 ?_
  refine g_aload_n C dL_law_261 rfl ?_
  refine x_callH C hT hH (w_L_open _ hls hC ho hO0 (hf (5 * t + 1)) (hf (5 * t + 2))) ml_RL_174 sm_yL_open in_RL co_yL_open hd_L_open rfl ⟨by omega, by omega⟩ rfl (Nat.le_of_ble_eq_true rfl) ⟨by omega, by omega⟩ dL_law_262 (fun v1 w1 hp => ?_)
  refine g_wf (fun hwf1 => ?_)
  obtain ⟨k1, nv, bs1, ss1, ct1, hv1, hOV, hnv, ⟨⟨pb2, hp2, hC1⟩, hkm⟩, hD⟩ := a_open hC ho ⟨n0, s0, hO0⟩ hp
  subst hv1
  have hM1 := hM.keep hkm.2
  refine g_istore C dL_law_265 (by decide) rfl ?_
  refine g_aload_n C dL_law_267 rfl ?_
  refine g_aload_n C dL_law_268 rfl ?_
  refine g_iload C dL_law_269 rfl ?_
  refine g_iconst C dL_law_271 ?_
  refine g_iadd C dL_law_272 ?_
  refine g_sld (5 * t + 1) C hS (by omega) (by omega) dL_law_273 ?_
  refine g_aload_n C dL_law_274 rfl ?_
  refine g_iload C dL_law_275 rfl ?_
  refine g_iconst C dL_law_277 ?_
  refine g_iadd C dL_law_278 ?_
  refine g_sld (5 * t + 2) C hS (by omega) (by omega) dL_law_279 ?_
  refine g_callV C (c_X8_open _ (hf (5 * t + 1)) (hf (5 * t + 2)) hM1) (ci := 10) rfl hM1.o rfl ml_RL_179 im_yX8_open se_RX8_yX8_open in_RX8 co_yX8_open hd_X8_open rfl ⟨by omega, by omega⟩ rfl (Nat.le_of_ble_eq_true rfl) ⟨by omega, by omega⟩ dL_law_280 (fun v280 w280 hp280 => ?_)
  refine g_wf (fun hwf2 => ?_)
  obtain ⟨t2, ba2, st2, cm2, ans, hv2, hM2, hk2, hcs⟩ := hp280
  subst hv2
  obtain ⟨hg2, hr2, hkk, hans⟩ := b_open hg hr hD hcs
  have hI2 := inv_md hwf1 hwf2 hC1 rfl ho hOV.u hk2 (fun _ _ => rfl) hM2 hg2 (rl_pb hp2 hr2)
  refine g_istore C dL_law_283 (by decide) rfl ?_
  refine g_goto (tgt := 2213) C dL_law_285 (by decide) ?_
  exact g_drop 5 (g_drop 6 (g_widen (by omega) (by omega) (kk _ hI2)))
set_option maxHeartbeats 4000000 in
set_option maxRecDepth 100000 in
theorem lc_forth {K : KC} {E : GE} {X : XT} {b N : Nat} {f : Nat → Int} {x m o t k n : Nat} {w : Wd} (LX : LawX K E X b N f) (ht : 5 * t + 5 ≤ N) (hI : INV x m o t w) (hk : k + 2000 ≤ 929463) (hn : n + 80000 ≤ 6313092) (kk : ∀ w', INV x m o (t + 1) w' → G E X 7 2213 (LL b x m o t) [] w' (k + 2000) (n + 80000)) : G E X 7 288 (LL b x m o t) [] w k n := by
  obtain ⟨C, hT, hH, hls, ⟨hRf, hRl, hRc, hRs⟩, hS⟩ := LX
  have hf := hS.2.2.2.1
  have hN := hS.2.2.2.2
  obtain ⟨τ, ad, bs, ss, pb, P, Q, ct, A, th, ba, st, pm, le, ri, sp, cm, hC, hM, hx, ho, ⟨n0, s0, hO0⟩, hg, hr⟩ := hI
  subst hx
  refine g_wf (fun hwf => ?_)
  refine g_aload_n C dL_law_288 rfl ?_
  refine g_aload_n C dL_law_289 rfl ?_
  refine g_iload C dL_law_290 rfl ?_
  refine g_iconst C dL_law_292 ?_
  refine g_iadd C dL_law_293 ?_
  refine g_sld (5 * t + 1) C hS (by omega) (by omega) dL_law_294 ?_
  refine g_aload_n C dL_law_295 rfl ?_
  refine g_iload C dL_law_296 rfl ?_
  refine g_iconst C dL_law_298 ?_
  refine g_iadd C dL_law_299 ?_
  refine g_sld (5 * t + 2) C hS (by omega) (by omega) dL_law_300 ?_
  refine g_aload_n C dL_law_301 rfl ?_
  refine x_callH C hT hH (w_L_forth _ hls hC ho hO0 (hf (5 * t + 1)) (hf (5 * t + 2))) ml_RL_180 sm_yL_forth in_RL co_yL_forth hd_L_forth rfl ⟨by omega, by omega⟩ rfl (Nat.le_of_ble_eq_true rfl) ⟨by omega, by omega⟩ dL_law_302 (fun v1 w1 hp => ?_)
  refine g_wf (fun hwf1 => ?_)
  obtain ⟨k1, nv, ss1, ct1, hv1, hOV, hnv, ⟨⟨pb2, hp2, hC1⟩, hkm⟩, hD⟩ := a_forth hC ho ⟨n0, s0, hO0⟩ hp
  subst hv1
  have hM1 := hM.keep hkm.2
  refine g_istore C dL_law_305 (by decide) rfl ?_
  refine g_aload_n C dL_law_307 rfl ?_
  refine g_aload_n C dL_law_308 rfl ?_
  refine g_iload C dL_law_309 rfl ?_
  refine g_iconst C dL_law_311 ?_
  refine g_iadd C dL_law_312 ?_
  refine g_sld (5 * t + 1) C hS (by omega) (by omega) dL_law_313 ?_
  refine g_aload_n C dL_law_314 rfl ?_
  refine g_iload C dL_law_315 rfl ?_
  refine g_iconst C dL_law_317 ?_
  refine g_iadd C dL_law_318 ?_
  refine g_sld (5 * t + 2) C hS (by omega) (by omega) dL_law_319 ?_
  refine g_callV C (c_X8_forth _ (hf (5 * t + 1)) (hf (5 * t + 2)) hM1 hg.2.1) (ci := 10) rfl hM1.o rfl ml_RL_182 im_yX8_forth se_RX8_yX8_forth in_RX8 co_yX8_forth hd_X8_forth rfl ⟨by omega, by omega⟩ rfl (Nat.le_of_ble_eq_true rfl) ⟨by omega, by omega⟩ dL_law_320 (fun v320 w320 hp320 => ?_)
  refine g_wf (fun hwf2 => ?_)
  obtain ⟨t2, st2, cm2, ans, hv2, hM2, hk2, hcs⟩ := hp320
  subst hv2
  obtain ⟨hg2, hr2, hkk, hans⟩ := b_forth hg hr hD hcs
  have hI2 := inv_md hwf1 hwf2 hC1 rfl ho hOV.u hk2 (fun _ _ => rfl) hM2 hg2 (rl_pb hp2 hr2)
  refine g_istore C dL_law_323 (by decide) rfl ?_
  refine g_goto (tgt := 2213) C dL_law_325 (by decide) ?_
  exact g_drop 5 (g_drop 6 (g_widen (by omega) (by omega) (kk _ hI2)))
set_option maxHeartbeats 4000000 in
set_option maxRecDepth 100000 in
theorem lc_back {K : KC} {E : GE} {X : XT} {b N : Nat} {f : Nat → Int} {x m o t k n : Nat} {w : Wd} (LX : LawX K E X b N f) (ht : 5 * t + 5 ≤ N) (hI : INV x m o t w) (hk : k + 2000 ≤ 929463) (hn : n + 80000 ≤ 6313092) (kk : ∀ w', INV x m o (t + 1) w' → G E X 7 2213 (LL b x m o t) [] w' (k + 2000) (n + 80000)) : G E X 7 328 (LL b x m o t) [] w k n := by
  obtain ⟨C, hT, hH, hls, ⟨hRf, hRl, hRc, hRs⟩, hS⟩ := LX
  have hf := hS.2.2.2.1
  have hN := hS.2.2.2.2
  obtain ⟨τ, ad, bs, ss, pb, P, Q, ct, A, th, ba, st, pm, le, ri, sp, cm, hC, hM, hx, ho, ⟨n0, s0, hO0⟩, hg, hr⟩ := hI
  subst hx
  refine g_wf (fun hwf => ?_)
  refine g_aload_n C dL_law_328 rfl ?_
  refine g_aload_n C dL_law_329 rfl ?_
  refine g_iload C dL_law_330 rfl ?_
  refine g_iconst C dL_law_332 ?_
  refine g_iadd C dL_law_333 ?_
  refine g_sld (5 * t + 1) C hS (by omega) (by omega) dL_law_334 ?_
  refine g_aload_n C dL_law_335 rfl ?_
  refine x_callH C hT hH (w_L_back _ hls hC ho hO0 (hf (5 * t + 1))) ml_RL_183 sm_yL_back in_RL co_yL_back hd_L_back rfl ⟨by omega, by omega⟩ rfl (Nat.le_of_ble_eq_true rfl) ⟨by omega, by omega⟩ dL_law_336 (fun v1 w1 hp => ?_)
  refine g_wf (fun hwf1 => ?_)
  obtain ⟨k1, nv, ss1, ct1, hv1, hOV, hnv, ⟨⟨pb2, hp2, hC1⟩, hkm⟩, hD⟩ := a_back hC ho ⟨n0, s0, hO0⟩ hp
  subst hv1
  have hM1 := hM.keep hkm.2
  refine g_istore C dL_law_339 (by decide) rfl ?_
  refine g_aload_n C dL_law_341 rfl ?_
  refine g_aload_n C dL_law_342 rfl ?_
  refine g_iload C dL_law_343 rfl ?_
  refine g_iconst C dL_law_345 ?_
  refine g_iadd C dL_law_346 ?_
  refine g_sld (5 * t + 1) C hS (by omega) (by omega) dL_law_347 ?_
  refine g_callV C (c_X8_back _ (hf (5 * t + 1)) hM1 hg.2.1) (ci := 10) rfl hM1.o rfl ml_RL_186 im_yX8_back se_RX8_yX8_back in_RX8 co_yX8_back hd_X8_back rfl ⟨by omega, by omega⟩ rfl (Nat.le_of_ble_eq_true rfl) ⟨by omega, by omega⟩ dL_law_348 (fun v348 w348 hp348 => ?_)
  refine g_wf (fun hwf2 => ?_)
  obtain ⟨t2, st2, cm2, ans, hv2, hM2, hk2, hcs⟩ := hp348
  subst hv2
  obtain ⟨hg2, hr2, hkk, hans⟩ := b_back hg hr hD hcs
  have hI2 := inv_md hwf1 hwf2 hC1 rfl ho hOV.u hk2 (fun _ _ => rfl) hM2 hg2 (rl_pb hp2 hr2)
  refine g_istore C dL_law_351 (by decide) rfl ?_
  refine g_goto (tgt := 2213) C dL_law_353 (by decide) ?_
  exact g_drop 5 (g_drop 6 (g_widen (by omega) (by omega) (kk _ hI2)))
set_option maxHeartbeats 4000000 in
set_option maxRecDepth 100000 in
theorem lc_walkCopy {K : KC} {E : GE} {X : XT} {b N : Nat} {f : Nat → Int} {x m o t k n : Nat} {w : Wd} (LX : LawX K E X b N f) (ht : 5 * t + 5 ≤ N) (hI : INV x m o t w) (hk : k + 2000 ≤ 929463) (hn : n + 80000 ≤ 6313092) (kk : ∀ w', INV x m o (t + 1) w' → G E X 7 2213 (LL b x m o t) [] w' (k + 2000) (n + 80000)) : G E X 7 356 (LL b x m o t) [] w k n := by
  obtain ⟨C, hT, hH, hls, ⟨hRf, hRl, hRc, hRs⟩, hS⟩ := LX
  have hf := hS.2.2.2.1
  have hN := hS.2.2.2.2
  obtain ⟨τ, ad, bs, ss, pb, P, Q, ct, A, th, ba, st, pm, le, ri, sp, cm, hC, hM, hx, ho, ⟨n0, s0, hO0⟩, hg, hr⟩ := hI
  subst hx
  refine g_wf (fun hwf => ?_)
  refine g_aload_n C dL_law_356 rfl ?_
  refine g_aload_n C dL_law_357 rfl ?_
  refine g_iload C dL_law_358 rfl ?_
  refine g_iconst C dL_law_360 ?_
  refine g_iadd C dL_law_361 ?_
  refine g_sld (5 * t + 1) C hS (by omega) (by omega) dL_law_362 ?_
  refine g_aload_n C dL_law_363 rfl ?_
  refine g_iload C dL_law_364 rfl ?_
  refine g_iconst C dL_law_366 ?_
  refine g_iadd C dL_law_367 ?_
  refine g_sld (5 * t + 2) C hS (by omega) (by omega) dL_law_368 ?_
  refine g_aload_n C dL_law_369 rfl ?_
  refine x_callH C hT hH (w_L_walkCopy _ hls hC ho hO0 (hf (5 * t + 1)) (hf (5 * t + 2))) ml_RL_187 sm_yL_walkCopy in_RL co_yL_walkCopy hd_L_walkCopy rfl ⟨by omega, by omega⟩ rfl (Nat.le_of_ble_eq_true rfl) ⟨by omega, by omega⟩ dL_law_370 (fun v1 w1 hp => ?_)
  refine g_wf (fun hwf1 => ?_)
  obtain ⟨k1, nv, bs1, ss1, ct1, hv1, hOV, hnv, ⟨⟨pb2, hp2, hC1⟩, hkm⟩, hD⟩ := a_walkCopy hC ho ⟨n0, s0, hO0⟩ hp
  subst hv1
  have hM1 := hM.keep hkm.2
  refine g_istore C dL_law_373 (by decide) rfl ?_
  refine g_aload_n C dL_law_375 rfl ?_
  refine g_aload_n C dL_law_376 rfl ?_
  refine g_iload C dL_law_377 rfl ?_
  refine g_iconst C dL_law_379 ?_
  refine g_iadd C dL_law_380 ?_
  refine g_sld (5 * t + 1) C hS (by omega) (by omega) dL_law_381 ?_
  refine g_aload_n C dL_law_382 rfl ?_
  refine g_iload C dL_law_383 rfl ?_
  refine g_iconst C dL_law_385 ?_
  refine g_iadd C dL_law_386 ?_
  refine g_sld (5 * t + 2) C hS (by omega) (by omega) dL_law_387 ?_
  refine g_callV C (c_X8_walkCopy _ (hf (5 * t + 1)) (hf (5 * t + 2)) hM1 hg.1 hg.2.1) (ci := 10) rfl hM1.o rfl ml_RL_189 im_yX8_walkCopy se_RX8_yX8_walkCopy in_RX8 co_yX8_walkCopy hd_X8_walkCopy rfl ⟨by omega, by omega⟩ rfl (Nat.le_of_ble_eq_true rfl) ⟨by omega, by omega⟩ dL_law_388 (fun v388 w388 hp388 => ?_)
  refine g_wf (fun hwf2 => ?_)
  obtain ⟨t2, ba2, st2, cm2, ans, hv2, hM2, hk2, hcs⟩ := hp388
  subst hv2
  obtain ⟨hg2, hr2, hkk, hans⟩ := b_walkCopy hg hr hD hcs
  have hI2 := inv_md hwf1 hwf2 hC1 rfl ho hOV.u hk2 (fun _ _ => rfl) hM2 hg2 (rl_pb hp2 hr2)
  refine g_istore C dL_law_391 (by decide) rfl ?_
  refine g_goto (tgt := 2213) C dL_law_393 (by decide) ?_
  exact g_drop 5 (g_drop 6 (g_widen (by omega) (by omega) (kk _ hI2)))
set_option maxHeartbeats 4000000 in
set_option maxRecDepth 100000 in
theorem lc_part {K : KC} {E : GE} {X : XT} {b N : Nat} {f : Nat → Int} {x m o t k n : Nat} {w : Wd} (LX : LawX K E X b N f) (ht : 5 * t + 5 ≤ N) (hI : INV x m o t w) (hk : k + 2000 ≤ 929463) (hn : n + 80000 ≤ 6313092) (kk : ∀ w', INV x m o (t + 1) w' → G E X 7 2213 (LL b x m o t) [] w' (k + 2000) (n + 80000)) : G E X 7 396 (LL b x m o t) [] w k n := by
  obtain ⟨C, hT, hH, hls, ⟨hRf, hRl, hRc, hRs⟩, hS⟩ := LX
  have hf := hS.2.2.2.1
  have hN := hS.2.2.2.2
  obtain ⟨τ, ad, bs, ss, pb, P, Q, ct, A, th, ba, st, pm, le, ri, sp, cm, hC, hM, hx, ho, ⟨n0, s0, hO0⟩, hg, hr⟩ := hI
  subst hx
  refine g_wf (fun hwf => ?_)
  refine g_aload_n C dL_law_396 rfl ?_
  refine g_aload_n C dL_law_397 rfl ?_
  refine g_iload C dL_law_398 rfl ?_
  refine g_iconst C dL_law_400 ?_
  refine g_iadd C dL_law_401 ?_
  refine g_sld (5 * t + 1) C hS (by omega) (by omega) dL_law_402 ?_
  refine g_aload_n C dL_law_403 rfl ?_
  refine g_iload C dL_law_404 rfl ?_
  refine g_iconst C dL_law_406 ?_
  refine g_iadd C dL_law_407 ?_
  refine g_sld (5 * t + 2) C hS (by omega) (by omega) dL_law_408 ?_
  refine g_aload_n C dL_law_409 rfl ?_
  refine x_callH C hT hH (w_L_part _ hls hC ho hO0 (hf (5 * t + 1)) (hf (5 * t + 2))) ml_RL_190 sm_yL_part in_RL co_yL_part hd_L_part rfl ⟨by omega, by omega⟩ rfl (Nat.le_of_ble_eq_true rfl) ⟨by omega, by omega⟩ dL_law_410 (fun v1 w1 hp => ?_)
  refine g_wf (fun hwf1 => ?_)
  obtain ⟨⟨k1, hv1, hk1⟩, hcalm⟩ := a_part hC ho ⟨n0, s0, hO0⟩ hp
  subst hv1
  have hkm : KM τ w w1 := by
    obtain ⟨_, _, _, _, _, _, q, _⟩ := hcalm
    exact q
  have hM1 := hM.keep hkm.2
  refine g_istore C dL_law_413 (by decide) rfl ?_
  refine g_aload_n C dL_law_415 rfl ?_
  refine g_aload_n C dL_law_416 rfl ?_
  refine g_iload C dL_law_417 rfl ?_
  refine g_iconst C dL_law_419 ?_
  refine g_iadd C dL_law_420 ?_
  refine g_sld (5 * t + 1) C hS (by omega) (by omega) dL_law_421 ?_
  refine g_aload_n C dL_law_422 rfl ?_
  refine g_iload C dL_law_423 rfl ?_
  refine g_iconst C dL_law_425 ?_
  refine g_iadd C dL_law_426 ?_
  refine g_sld (5 * t + 2) C hS (by omega) (by omega) dL_law_427 ?_
  refine g_callV C (c_X8_part _ (hf (5 * t + 1)) (hf (5 * t + 2)) hM1 hg.1 hg.2.1) (ci := 10) rfl hM1.o rfl ml_RL_192 im_yX8_part se_RX8_yX8_part in_RX8 co_yX8_part hd_X8_part rfl ⟨by omega, by omega⟩ rfl (Nat.le_of_ble_eq_true rfl) ⟨by omega, by omega⟩ dL_law_428 (fun v428 w428 hp428 => ?_)
  refine g_wf (fun hwf2 => ?_)
  obtain ⟨t2, ans, hv2, hM2, hk2, hcs⟩ := hp428
  subst hv2
  have h02 : 0 ≤ t2 ∧ t2 ≤ 2 := by omega
  have hI2 := inv_ask hwf1 hwf2 hcalm rfl ho hk2 hM2 h02 hg hr
  refine g_istore C dL_law_431 (by decide) rfl ?_
  refine g_goto (tgt := 2213) C dL_law_433 (by decide) ?_
  exact g_drop 5 (g_drop 6 (g_widen (by omega) (by omega) (kk _ hI2)))
set_option maxHeartbeats 4000000 in
set_option maxRecDepth 100000 in
theorem lc_walkText {K : KC} {E : GE} {X : XT} {b N : Nat} {f : Nat → Int} {x m o t k n : Nat} {w : Wd} (LX : LawX K E X b N f) (ht : 5 * t + 5 ≤ N) (hI : INV x m o t w) (hk : k + 2000 ≤ 929463) (hn : n + 80000 ≤ 6313092) (kk : ∀ w', INV x m o (t + 1) w' → G E X 7 2213 (LL b x m o t) [] w' (k + 2000) (n + 80000)) : G E X 7 436 (LL b x m o t) [] w k n := by
  obtain ⟨C, hT, hH, hls, ⟨hRf, hRl, hRc, hRs⟩, hS⟩ := LX
  have hf := hS.2.2.2.1
  have hN := hS.2.2.2.2
  obtain ⟨τ, ad, bs, ss, pb, P, Q, ct, A, th, ba, st, pm, le, ri, sp, cm, hC, hM, hx, ho, ⟨n0, s0, hO0⟩, hg, hr⟩ := hI
  subst hx
  refine g_wf (fun hwf => ?_)
  refine g_aload_n C dL_law_436 rfl ?_
  refine g_aload_n C dL_law_437 rfl ?_
  refine g_iload C dL_law_438 rfl ?_
  refine g_iconst C dL_law_440 ?_
  refine g_iadd C dL_law_441 ?_
  refine g_sld (5 * t + 1) C hS (by omega) (by omega) dL_law_442 ?_
  refine g_aload_n C dL_law_443 rfl ?_
  refine g_iload C dL_law_444 rfl ?_
  refine g_iconst C dL_law_446 ?_
  refine g_iadd C dL_law_447 ?_
  refine g_sld (5 * t + 2) C hS (by omega) (by omega) dL_law_448 ?_
  refine g_aload_n C dL_law_449 rfl ?_
  refine g_iload C dL_law_450 rfl ?_
  refine g_iconst C dL_law_452 ?_
  refine g_iadd C dL_law_453 ?_
  refine g_sld (5 * t + 3) C hS (by omega) (by omega) dL_law_454 ?_
  refine g_aload_n C dL_law_455 rfl ?_
  refine x_callH C hT hH (w_L_walkText _ hls hC ho hO0 (hf (5 * t + 1)) (hf (5 * t + 2)) (hf (5 * t + 3))) ml_RL_193 sm_yL_walkText in_RL co_yL_walkText hd_L_walkText rfl ⟨by omega, by omega⟩ rfl (Nat.le_of_ble_eq_true rfl) ⟨by omega, by omega⟩ dL_law_456 (fun v1 w1 hp => ?_)
  refine g_wf (fun hwf1 => ?_)
  obtain ⟨⟨k1, hv1, hk1⟩, hcalm⟩ := a_walkText hC ho ⟨n0, s0, hO0⟩ hp
  subst hv1
  have hkm : KM τ w w1 := by
    obtain ⟨_, _, _, _, _, _, q, _⟩ := hcalm
    exact q
  have hM1 := hM.keep hkm.2
  refine g_istore C dL_law_459 (by decide) rfl ?_
  refine g_aload_n C dL_law_461 rfl ?_
  refine g_aload_n C dL_law_462 rfl ?_
  refine g_iload C dL_law_463 rfl ?_
  refine g_iconst C dL_law_465 ?_
  refine g_iadd C dL_law_466 ?_
  refine g_sld (5 * t + 1) C hS (by omega) (by omega) dL_law_467 ?_
  refine g_aload_n C dL_law_468 rfl ?_
  refine g_iload C dL_law_469 rfl ?_
  refine g_iconst C dL_law_471 ?_
  refine g_iadd C dL_law_472 ?_
  refine g_sld (5 * t + 2) C hS (by omega) (by omega) dL_law_473 ?_
  refine g_aload_n C dL_law_474 rfl ?_
  refine g_iload C dL_law_475 rfl ?_
  refine g_iconst C dL_law_477 ?_
  refine g_iadd C dL_law_478 ?_
  refine g_sld (5 * t + 3) C hS (by omega) (by omega) dL_law_479 ?_
  refine t_callV C hT (c_X8_walkText _ (hf (5 * t + 1)) (hf (5 * t + 2)) (hf (5 * t + 3)) hM1 hg.1 hg.2.1) (RcV.ob (ci := 10) C rfl hM1.o) rfl ml_RL_196 im_yX8_walkText se_RX8_yX8_walkText in_RX8 co_yX8_walkText hd_X8_walkText rfl ⟨by omega, by omega⟩ rfl (Nat.le_of_ble_eq_true rfl) ⟨by omega, by omega⟩ dL_law_480 (fun v480 w480 hp480 => ?_)
  refine g_wf (fun hwf2 => ?_)
  obtain ⟨t2, s2, hv2, hM2, hk2, h02⟩ := hp480
  subst hv2
  have hI2 := inv_ask hwf1 hwf2 hcalm rfl ho hk2 hM2 h02 hg hr
  refine g_astore C dL_law_483 (by decide) rfl ?_
  refine g_goto (tgt := 2213) C dL_law_485 (by decide) ?_
  exact g_drop 5 (g_drop 6 (g_widen (by omega) (by omega) (kk _ hI2)))
set_option maxHeartbeats 4000000 in
set_option maxRecDepth 100000 in
theorem lc_test {K : KC} {E : GE} {X : XT} {b N : Nat} {f : Nat → Int} {x m o t k n : Nat} {w : Wd} (LX : LawX K E X b N f) (ht : 5 * t + 5 ≤ N) (hI : INV x m o t w) (hk : k + 2000 ≤ 929463) (hn : n + 80000 ≤ 6313092) (kk : ∀ w', INV x m o (t + 1) w' → G E X 7 2213 (LL b x m o t) [] w' (k + 2000) (n + 80000)) : G E X 7 488 (LL b x m o t) [] w k n := by
  obtain ⟨C, hT, hH, hls, ⟨hRf, hRl, hRc, hRs⟩, hS⟩ := LX
  have hf := hS.2.2.2.1
  have hN := hS.2.2.2.2
  obtain ⟨τ, ad, bs, ss, pb, P, Q, ct, A, th, ba, st, pm, le, ri, sp, cm, hC, hM, hx, ho, ⟨n0, s0, hO0⟩, hg, hr⟩ := hI
  subst hx
  refine g_wf (fun hwf => ?_)
  refine g_aload_n C dL_law_488 rfl ?_
  refine g_aload_n C dL_law_489 rfl ?_
  refine g_iload C dL_law_490 rfl ?_
  refine g_iconst C dL_law_492 ?_
  refine g_iadd C dL_law_493 ?_
  refine g_sld (5 * t + 1) C hS (by omega) (by omega) dL_law_494 ?_
  refine g_aload_n C dL_law_495 rfl ?_
  refine g_iload C dL_law_496 rfl ?_
  refine g_iconst C dL_law_498 ?_
  refine g_iadd C dL_law_499 ?_
  refine g_sld (5 * t + 2) C hS (by omega) (by omega) dL_law_500 ?_
  refine g_aload_n C dL_law_501 rfl ?_
  refine x_callH C hT hH (w_L_test _ hls hC ho hO0 (hf (5 * t + 1)) (hf (5 * t + 2))) ml_RL_197 sm_yL_test in_RL co_yL_test hd_L_test rfl ⟨by omega, by omega⟩ rfl (Nat.le_of_ble_eq_true rfl) ⟨by omega, by omega⟩ dL_law_502 (fun v1 w1 hp => ?_)
  refine g_wf (fun hwf1 => ?_)
  obtain ⟨⟨k1, hv1, hk1⟩, hcalm⟩ := a_test hC ho ⟨n0, s0, hO0⟩ hp
  subst hv1
  have hkm : KM τ w w1 := by
    obtain ⟨_, _, _, _, _, _, q, _⟩ := hcalm
    exact q
  have hM1 := hM.keep hkm.2
  refine g_istore C dL_law_505 (by decide) rfl ?_
  refine g_aload_n C dL_law_507 rfl ?_
  refine g_aload_n C dL_law_508 rfl ?_
  refine g_iload C dL_law_509 rfl ?_
  refine g_iconst C dL_law_511 ?_
  refine g_iadd C dL_law_512 ?_
  refine g_sld (5 * t + 1) C hS (by omega) (by omega) dL_law_513 ?_
  refine g_aload_n C dL_law_514 rfl ?_
  refine g_iload C dL_law_515 rfl ?_
  refine g_iconst C dL_law_517 ?_
  refine g_iadd C dL_law_518 ?_
  refine g_sld (5 * t + 2) C hS (by omega) (by omega) dL_law_519 ?_
  refine g_callV C (c_X8_test _ (hf (5 * t + 1)) (hf (5 * t + 2)) hM1 hg.1 hg.2.1) (ci := 10) rfl hM1.o rfl ml_RL_199 im_yX8_test se_RX8_yX8_test in_RX8 co_yX8_test hd_X8_test rfl ⟨by omega, by omega⟩ rfl (Nat.le_of_ble_eq_true rfl) ⟨by omega, by omega⟩ dL_law_520 (fun v520 w520 hp520 => ?_)
  refine g_wf (fun hwf2 => ?_)
  obtain ⟨t2, ans, hv2, hM2, hk2, hcs⟩ := hp520
  subst hv2
  have h02 : 0 ≤ t2 ∧ t2 ≤ 2 := by omega
  have hI2 := inv_ask hwf1 hwf2 hcalm rfl ho hk2 hM2 h02 hg hr
  refine g_istore C dL_law_523 (by decide) rfl ?_
  refine g_goto (tgt := 2213) C dL_law_525 (by decide) ?_
  exact g_drop 5 (g_drop 6 (g_widen (by omega) (by omega) (kk _ hI2)))
set_option maxHeartbeats 4000000 in
set_option maxRecDepth 100000 in
theorem lc_walkBits {K : KC} {E : GE} {X : XT} {b N : Nat} {f : Nat → Int} {x m o t k n : Nat} {w : Wd} (LX : LawX K E X b N f) (ht : 5 * t + 5 ≤ N) (hI : INV x m o t w) (hk : k + 2000 ≤ 929463) (hn : n + 80000 ≤ 6313092) (kk : ∀ w', INV x m o (t + 1) w' → G E X 7 2213 (LL b x m o t) [] w' (k + 2000) (n + 80000)) : G E X 7 528 (LL b x m o t) [] w k n := by
  obtain ⟨C, hT, hH, hls, ⟨hRf, hRl, hRc, hRs⟩, hS⟩ := LX
  have hf := hS.2.2.2.1
  have hN := hS.2.2.2.2
  obtain ⟨τ, ad, bs, ss, pb, P, Q, ct, A, th, ba, st, pm, le, ri, sp, cm, hC, hM, hx, ho, ⟨n0, s0, hO0⟩, hg, hr⟩ := hI
  subst hx
  refine g_wf (fun hwf => ?_)
  refine g_aload_n C dL_law_528 rfl ?_
  refine g_aload_n C dL_law_529 rfl ?_
  refine g_iload C dL_law_530 rfl ?_
  refine g_iconst C dL_law_532 ?_
  refine g_iadd C dL_law_533 ?_
  refine g_sld (5 * t + 1) C hS (by omega) (by omega) dL_law_534 ?_
  refine g_aload_n C dL_law_535 rfl ?_
  refine g_iload C dL_law_536 rfl ?_
  refine g_iconst C dL_law_538 ?_
  refine g_iadd C dL_law_539 ?_
  refine g_sld (5 * t + 2) C hS (by omega) (by omega) dL_law_540 ?_
  refine g_bool C (hf _) dL_law_541 dL_law_544 dL_law_545 dL_law_548 ?_
  refine g_aload_n C dL_law_549 rfl ?_
  refine g_iload C dL_law_550 rfl ?_
  refine g_iconst C dL_law_552 ?_
  refine g_iadd C dL_law_553 ?_
  refine g_sld (5 * t + 3) C hS (by omega) (by omega) dL_law_554 ?_
  refine g_aload_n C dL_law_555 rfl ?_
  refine x_callH C hT hH (w_L_walkBits _ hls hC ho hO0 (hf (5 * t + 1)) (bI_01 _) (hf (5 * t + 3))) ml_RL_200 sm_yL_walkBits in_RL co_yL_walkBits hd_L_walkBits rfl ⟨by omega, by omega⟩ rfl (Nat.le_of_ble_eq_true rfl) ⟨by omega, by omega⟩ dL_law_556 (fun v1 w1 hp => ?_)
  refine g_wf (fun hwf1 => ?_)
  obtain ⟨⟨k1, hv1, hk1⟩, hcalm⟩ := a_walkBits hC ho ⟨n0, s0, hO0⟩ (y := bI (f (5 * t + 2) ≠ 0)) hp
  subst hv1
  have hkm : KM τ w w1 := by
    obtain ⟨_, _, _, _, _, _, q, _⟩ := hcalm
    exact q
  have hM1 := hM.keep hkm.2
  refine g_istore C dL_law_559 (by decide) rfl ?_
  refine g_aload_n C dL_law_561 rfl ?_
  refine g_aload_n C dL_law_562 rfl ?_
  refine g_iload C dL_law_563 rfl ?_
  refine g_iconst C dL_law_565 ?_
  refine g_iadd C dL_law_566 ?_
  refine g_sld (5 * t + 1) C hS (by omega) (by omega) dL_law_567 ?_
  refine g_aload_n C dL_law_568 rfl ?_
  refine g_iload C dL_law_569 rfl ?_
  refine g_iconst C dL_law_571 ?_
  refine g_iadd C dL_law_572 ?_
  refine g_sld (5 * t + 2) C hS (by omega) (by omega) dL_law_573 ?_
  refine g_bool C (hf _) dL_law_574 dL_law_577 dL_law_578 dL_law_581 ?_
  refine g_aload_n C dL_law_582 rfl ?_
  refine g_iload C dL_law_583 rfl ?_
  refine g_iconst C dL_law_585 ?_
  refine g_iadd C dL_law_586 ?_
  refine g_sld (5 * t + 3) C hS (by omega) (by omega) dL_law_587 ?_
  refine g_callV C (c_X8_walkBits _ (hf (5 * t + 1)) (hf (5 * t + 3)) (bI_01 _) hM1 hg.1 hg.2.1) (ci := 10) rfl hM1.o rfl ml_RL_203 im_yX8_walkBits se_RX8_yX8_walkBits in_RX8 co_yX8_walkBits hd_X8_walkBits rfl ⟨by omega, by omega⟩ rfl (Nat.le_of_ble_eq_true rfl) ⟨by omega, by omega⟩ dL_law_588 (fun v588 w588 hp588 => ?_)
  refine g_wf (fun hwf2 => ?_)
  obtain ⟨t2, ans, hv2, hM2, hk2, hcs⟩ := hp588
  subst hv2
  have h02 : 0 ≤ t2 ∧ t2 ≤ 2 := by omega
  have hI2 := inv_ask hwf1 hwf2 hcalm rfl ho hk2 hM2 h02 hg hr
  refine g_istore C dL_law_591 (by decide) rfl ?_
  refine g_goto (tgt := 2213) C dL_law_593 (by decide) ?_
  exact g_drop 5 (g_drop 6 (g_widen (by omega) (by omega) (kk _ hI2)))
set_option maxHeartbeats 4000000 in
set_option maxRecDepth 100000 in
theorem lc_bit {K : KC} {E : GE} {X : XT} {b N : Nat} {f : Nat → Int} {x m o t k n : Nat} {w : Wd} (LX : LawX K E X b N f) (ht : 5 * t + 5 ≤ N) (hI : INV x m o t w) (hk : k + 2000 ≤ 929463) (hn : n + 80000 ≤ 6313092) (kk : ∀ w', INV x m o (t + 1) w' → G E X 7 2213 (LL b x m o t) [] w' (k + 2000) (n + 80000)) : G E X 7 596 (LL b x m o t) [] w k n := by
  obtain ⟨C, hT, hH, hls, ⟨hRf, hRl, hRc, hRs⟩, hS⟩ := LX
  have hf := hS.2.2.2.1
  have hN := hS.2.2.2.2
  obtain ⟨τ, ad, bs, ss, pb, P, Q, ct, A, th, ba, st, pm, le, ri, sp, cm, hC, hM, hx, ho, ⟨n0, s0, hO0⟩, hg, hr⟩ := hI
  subst hx
  refine g_wf (fun hwf => ?_)
  refine g_aload_n C dL_law_596 rfl ?_
  refine g_aload_n C dL_law_597 rfl ?_
  refine g_iload C dL_law_598 rfl ?_
  refine g_iconst C dL_law_600 ?_
  refine g_iadd C dL_law_601 ?_
  refine g_sld (5 * t + 1) C hS (by omega) (by omega) dL_law_602 ?_
  refine g_aload_n C dL_law_603 rfl ?_
  refine g_iload C dL_law_604 rfl ?_
  refine g_iconst C dL_law_606 ?_
  refine g_iadd C dL_law_607 ?_
  refine g_sld (5 * t + 2) C hS (by omega) (by omega) dL_law_608 ?_
  refine g_bool C (hf _) dL_law_609 dL_law_612 dL_law_613 dL_law_616 ?_
  refine g_aload_n C dL_law_617 rfl ?_
  refine g_iload C dL_law_618 rfl ?_
  refine g_iconst C dL_law_620 ?_
  refine g_iadd C dL_law_621 ?_
  refine g_sld (5 * t + 3) C hS (by omega) (by omega) dL_law_622 ?_
  refine g_aload_n C dL_law_623 rfl ?_
  refine x_callH C hT hH (w_L_bit _ hls hC ho hO0 (hf (5 * t + 1)) (bI_01 _) (hf (5 * t + 3))) ml_RL_204 sm_yL_bit in_RL co_yL_bit hd_L_bit rfl ⟨by omega, by omega⟩ rfl (Nat.le_of_ble_eq_true rfl) ⟨by omega, by omega⟩ dL_law_624 (fun v1 w1 hp => ?_)
  refine g_wf (fun hwf1 => ?_)
  obtain ⟨⟨k1, hv1, hk1⟩, hcalm⟩ := a_bit hC ho ⟨n0, s0, hO0⟩ (y := bI (f (5 * t + 2) ≠ 0)) hp
  subst hv1
  have hkm : KM τ w w1 := by
    obtain ⟨_, _, _, _, _, _, q, _⟩ := hcalm
    exact q
  have hM1 := hM.keep hkm.2
  refine g_istore C dL_law_627 (by decide) rfl ?_
  refine g_aload_n C dL_law_629 rfl ?_
  refine g_aload_n C dL_law_630 rfl ?_
  refine g_iload C dL_law_631 rfl ?_
  refine g_iconst C dL_law_633 ?_
  refine g_iadd C dL_law_634 ?_
  refine g_sld (5 * t + 1) C hS (by omega) (by omega) dL_law_635 ?_
  refine g_aload_n C dL_law_636 rfl ?_
  refine g_iload C dL_law_637 rfl ?_
  refine g_iconst C dL_law_639 ?_
  refine g_iadd C dL_law_640 ?_
  refine g_sld (5 * t + 2) C hS (by omega) (by omega) dL_law_641 ?_
  refine g_bool C (hf _) dL_law_642 dL_law_645 dL_law_646 dL_law_649 ?_
  refine g_aload_n C dL_law_650 rfl ?_
  refine g_iload C dL_law_651 rfl ?_
  refine g_iconst C dL_law_653 ?_
  refine g_iadd C dL_law_654 ?_
  refine g_sld (5 * t + 3) C hS (by omega) (by omega) dL_law_655 ?_
  refine g_callV C (c_X8_bit _ (hf (5 * t + 1)) (hf (5 * t + 3)) (bI_01 _) hM1 hg.1 hg.2.1) (ci := 10) rfl hM1.o rfl ml_RL_206 im_yX8_bit se_RX8_yX8_bit in_RX8 co_yX8_bit hd_X8_bit rfl ⟨by omega, by omega⟩ rfl (Nat.le_of_ble_eq_true rfl) ⟨by omega, by omega⟩ dL_law_656 (fun v656 w656 hp656 => ?_)
  refine g_wf (fun hwf2 => ?_)
  obtain ⟨t2, ans, hv2, hM2, hk2, hcs⟩ := hp656
  subst hv2
  have h02 : 0 ≤ t2 ∧ t2 ≤ 2 := by omega
  have hI2 := inv_ask hwf1 hwf2 hcalm rfl ho hk2 hM2 h02 hg hr
  refine g_istore C dL_law_659 (by decide) rfl ?_
  refine g_goto (tgt := 2213) C dL_law_661 (by decide) ?_
  exact g_drop 5 (g_drop 6 (g_widen (by omega) (by omega) (kk _ hI2)))
set_option maxHeartbeats 4000000 in
set_option maxRecDepth 100000 in
theorem lc_isRead {K : KC} {E : GE} {X : XT} {b N : Nat} {f : Nat → Int} {x m o t k n : Nat} {w : Wd} (LX : LawX K E X b N f) (ht : 5 * t + 5 ≤ N) (hI : INV x m o t w) (hk : k + 2000 ≤ 929463) (hn : n + 80000 ≤ 6313092) (kk : ∀ w', INV x m o (t + 1) w' → G E X 7 2213 (LL b x m o t) [] w' (k + 2000) (n + 80000)) : G E X 7 664 (LL b x m o t) [] w k n := by
  obtain ⟨C, hT, hH, hls, ⟨hRf, hRl, hRc, hRs⟩, hS⟩ := LX
  have hf := hS.2.2.2.1
  have hN := hS.2.2.2.2
  obtain ⟨τ, ad, bs, ss, pb, P, Q, ct, A, th, ba, st, pm, le, ri, sp, cm, hC, hM, hx, ho, ⟨n0, s0, hO0⟩, hg, hr⟩ := hI
  subst hx
  refine g_wf (fun hwf => ?_)
  refine g_aload_n C dL_law_664 rfl ?_
  refine g_aload_n C dL_law_665 rfl ?_
  refine g_iload C dL_law_666 rfl ?_
  refine g_iconst C dL_law_668 ?_
  refine g_iadd C dL_law_669 ?_
  refine g_sld (5 * t + 1) C hS (by omega) (by omega) dL_law_670 ?_
  refine g_aload_n C dL_law_671 rfl ?_
  refine g_iload C dL_law_672 rfl ?_
  refine g_iconst C dL_law_674 ?_
  refine g_iadd C dL_law_675 ?_
  refine g_sld (5 * t + 2) C hS (by omega) (by omega) dL_law_676 ?_
  refine g_aload_n C dL_law_677 rfl ?_
  refine x_callH C hT hH (w_L_isRead _ hls hC ho hO0 (hf (5 * t + 1)) (hf (5 * t + 2))) ml_RL_207 sm_yL_isRead in_RL co_yL_isRead hd_L_isRead rfl ⟨by omega, by omega⟩ rfl (Nat.le_of_ble_eq_true rfl) ⟨by omega, by omega⟩ dL_law_678 (fun v1 w1 hp => ?_)
  refine g_wf (fun hwf1 => ?_)
  obtain ⟨⟨k1, hv1, hk1⟩, hcalm⟩ := a_isRead hC ho ⟨n0, s0, hO0⟩ hp
  subst hv1
  have hkm : KM τ w w1 := by
    obtain ⟨_, _, _, _, _, _, q, _⟩ := hcalm
    exact q
  have hM1 := hM.keep hkm.2
  refine g_istore C dL_law_681 (by decide) rfl ?_
  refine g_aload_n C dL_law_683 rfl ?_
  refine g_aload_n C dL_law_684 rfl ?_
  refine g_iload C dL_law_685 rfl ?_
  refine g_iconst C dL_law_687 ?_
  refine g_iadd C dL_law_688 ?_
  refine g_sld (5 * t + 1) C hS (by omega) (by omega) dL_law_689 ?_
  refine g_aload_n C dL_law_690 rfl ?_
  refine g_iload C dL_law_691 rfl ?_
  refine g_iconst C dL_law_693 ?_
  refine g_iadd C dL_law_694 ?_
  refine g_sld (5 * t + 2) C hS (by omega) (by omega) dL_law_695 ?_
  refine g_callV C (c_X8_isRead _ (hf (5 * t + 1)) (hf (5 * t + 2)) hM1) (ci := 10) rfl hM1.o rfl ml_RL_209 im_yX8_isRead se_RX8_yX8_isRead in_RX8 co_yX8_isRead hd_X8_isRead rfl ⟨by omega, by omega⟩ rfl (Nat.le_of_ble_eq_true rfl) ⟨by omega, by omega⟩ dL_law_696 (fun v696 w696 hp696 => ?_)
  refine g_wf (fun hwf2 => ?_)
  obtain ⟨t2, ans, hv2, hM2, hk2, hcs⟩ := hp696
  subst hv2
  have h02 : 0 ≤ t2 ∧ t2 ≤ 2 := by omega
  have hI2 := inv_ask hwf1 hwf2 hcalm rfl ho hk2 hM2 h02 hg hr
  refine g_istore C dL_law_699 (by decide) rfl ?_
  refine g_goto (tgt := 2213) C dL_law_701 (by decide) ?_
  exact g_drop 5 (g_drop 6 (g_widen (by omega) (by omega) (kk _ hI2)))
set_option maxHeartbeats 4000000 in
set_option maxRecDepth 100000 in
theorem lc_isNear {K : KC} {E : GE} {X : XT} {b N : Nat} {f : Nat → Int} {x m o t k n : Nat} {w : Wd} (LX : LawX K E X b N f) (ht : 5 * t + 5 ≤ N) (hI : INV x m o t w) (hk : k + 2000 ≤ 929463) (hn : n + 80000 ≤ 6313092) (kk : ∀ w', INV x m o (t + 1) w' → G E X 7 2213 (LL b x m o t) [] w' (k + 2000) (n + 80000)) : G E X 7 704 (LL b x m o t) [] w k n := by
  obtain ⟨C, hT, hH, hls, ⟨hRf, hRl, hRc, hRs⟩, hS⟩ := LX
  have hf := hS.2.2.2.1
  have hN := hS.2.2.2.2
  obtain ⟨τ, ad, bs, ss, pb, P, Q, ct, A, th, ba, st, pm, le, ri, sp, cm, hC, hM, hx, ho, ⟨n0, s0, hO0⟩, hg, hr⟩ := hI
  subst hx
  refine g_wf (fun hwf => ?_)
  refine g_aload_n C dL_law_704 rfl ?_
  refine g_aload_n C dL_law_705 rfl ?_
  refine g_iload C dL_law_706 rfl ?_
  refine g_iconst C dL_law_708 ?_
  refine g_iadd C dL_law_709 ?_
  refine g_sld (5 * t + 1) C hS (by omega) (by omega) dL_law_710 ?_
  refine g_aload_n C dL_law_711 rfl ?_
  refine g_iload C dL_law_712 rfl ?_
  refine g_iconst C dL_law_714 ?_
  refine g_iadd C dL_law_715 ?_
  refine g_sld (5 * t + 2) C hS (by omega) (by omega) dL_law_716 ?_
  refine g_aload_n C dL_law_717 rfl ?_
  refine x_callH C hT hH (w_L_isNear _ hls hC ho hO0 (hf (5 * t + 1)) (hf (5 * t + 2))) ml_RL_210 sm_yL_isNear in_RL co_yL_isNear hd_L_isNear rfl ⟨by omega, by omega⟩ rfl (Nat.le_of_ble_eq_true rfl) ⟨by omega, by omega⟩ dL_law_718 (fun v1 w1 hp => ?_)
  refine g_wf (fun hwf1 => ?_)
  obtain ⟨⟨k1, hv1, hk1⟩, hcalm⟩ := a_isNear hC ho ⟨n0, s0, hO0⟩ hp
  subst hv1
  have hkm : KM τ w w1 := by
    obtain ⟨_, _, _, _, _, _, q, _⟩ := hcalm
    exact q
  have hM1 := hM.keep hkm.2
  refine g_istore C dL_law_721 (by decide) rfl ?_
  refine g_aload_n C dL_law_723 rfl ?_
  refine g_aload_n C dL_law_724 rfl ?_
  refine g_iload C dL_law_725 rfl ?_
  refine g_iconst C dL_law_727 ?_
  refine g_iadd C dL_law_728 ?_
  refine g_sld (5 * t + 1) C hS (by omega) (by omega) dL_law_729 ?_
  refine g_aload_n C dL_law_730 rfl ?_
  refine g_iload C dL_law_731 rfl ?_
  refine g_iconst C dL_law_733 ?_
  refine g_iadd C dL_law_734 ?_
  refine g_sld (5 * t + 2) C hS (by omega) (by omega) dL_law_735 ?_
  refine g_callV C (c_X8_isNear _ (hf (5 * t + 1)) (hf (5 * t + 2)) hM1 hg.1 hg.2.1) (ci := 10) rfl hM1.o rfl ml_RL_212 im_yX8_isNear se_RX8_yX8_isNear in_RX8 co_yX8_isNear hd_X8_isNear rfl ⟨by omega, by omega⟩ rfl (Nat.le_of_ble_eq_true rfl) ⟨by omega, by omega⟩ dL_law_736 (fun v736 w736 hp736 => ?_)
  refine g_wf (fun hwf2 => ?_)
  obtain ⟨t2, ans, hv2, hM2, hk2, hcs⟩ := hp736
  subst hv2
  have h02 : 0 ≤ t2 ∧ t2 ≤ 2 := by omega
  have hI2 := inv_ask hwf1 hwf2 hcalm rfl ho hk2 hM2 h02 hg hr
  refine g_istore C dL_law_739 (by decide) rfl ?_
  refine g_goto (tgt := 2213) C dL_law_741 (by decide) ?_
  exact g_drop 5 (g_drop 6 (g_widen (by omega) (by omega) (kk _ hI2)))
set_option maxHeartbeats 4000000 in
set_option maxRecDepth 100000 in
theorem lc_decimals {K : KC} {E : GE} {X : XT} {b N : Nat} {f : Nat → Int} {x m o t k n : Nat} {w : Wd} (LX : LawX K E X b N f) (ht : 5 * t + 5 ≤ N) (hI : INV x m o t w) (hk : k + 2000 ≤ 929463) (hn : n + 80000 ≤ 6313092) (kk : ∀ w', INV x m o (t + 1) w' → G E X 7 2213 (LL b x m o t) [] w' (k + 2000) (n + 80000)) : G E X 7 744 (LL b x m o t) [] w k n := by
  obtain ⟨C, hT, hH, hls, ⟨hRf, hRl, hRc, hRs⟩, hS⟩ := LX
  have hf := hS.2.2.2.1
  have hN := hS.2.2.2.2
  obtain ⟨τ, ad, bs, ss, pb, P, Q, ct, A, th, ba, st, pm, le, ri, sp, cm, hC, hM, hx, ho, ⟨n0, s0, hO0⟩, hg, hr⟩ := hI
  subst hx
  refine g_wf (fun hwf => ?_)
  refine g_aload_n C dL_law_744 rfl ?_
  refine g_aload_n C dL_law_745 rfl ?_
  refine g_iload C dL_law_746 rfl ?_
  refine g_iconst C dL_law_748 ?_
  refine g_iadd C dL_law_749 ?_
  refine g_sld (5 * t + 1) C hS (by omega) (by omega) dL_law_750 ?_
  refine g_aload_n C dL_law_751 rfl ?_
  refine g_iload C dL_law_752 rfl ?_
  refine g_iconst C dL_law_754 ?_
  refine g_iadd C dL_law_755 ?_
  refine g_sld (5 * t + 2) C hS (by omega) (by omega) dL_law_756 ?_
  refine g_aload_n C dL_law_757 rfl ?_
  refine x_callH C hT hH (w_L_decimals _ hls hC ho hO0 (hf (5 * t + 1)) (hf (5 * t + 2))) ml_RL_213 sm_yL_decimals in_RL co_yL_decimals hd_L_decimals rfl ⟨by omega, by omega⟩ rfl (Nat.le_of_ble_eq_true rfl) ⟨by omega, by omega⟩ dL_law_758 (fun v1 w1 hp => ?_)
  refine g_wf (fun hwf1 => ?_)
  obtain ⟨⟨k1, hv1, hk1⟩, hcalm⟩ := a_decimals hC ho ⟨n0, s0, hO0⟩ hp
  subst hv1
  have hkm : KM τ w w1 := by
    obtain ⟨_, _, _, _, _, _, q, _⟩ := hcalm
    exact q
  have hM1 := hM.keep hkm.2
  refine g_istore C dL_law_761 (by decide) rfl ?_
  refine g_aload_n C dL_law_763 rfl ?_
  refine g_aload_n C dL_law_764 rfl ?_
  refine g_iload C dL_law_765 rfl ?_
  refine g_iconst C dL_law_767 ?_
  refine g_iadd C dL_law_768 ?_
  refine g_sld (5 * t + 1) C hS (by omega) (by omega) dL_law_769 ?_
  refine g_aload_n C dL_law_770 rfl ?_
  refine g_iload C dL_law_771 rfl ?_
  refine g_iconst C dL_law_773 ?_
  refine g_iadd C dL_law_774 ?_
  refine g_sld (5 * t + 2) C hS (by omega) (by omega) dL_law_775 ?_
  refine t_callV C hT (c_X8_decimals _ (hf (5 * t + 1)) (hf (5 * t + 2)) hM1 hg.1 hg.2.1) (RcV.ob (ci := 10) C rfl hM1.o) rfl ml_RL_215 im_yX8_decimals se_RX8_yX8_decimals in_RX8 co_yX8_decimals hd_X8_decimals rfl ⟨by omega, by omega⟩ rfl (Nat.le_of_ble_eq_true rfl) ⟨by omega, by omega⟩ dL_law_776 (fun v776 w776 hp776 => ?_)
  refine g_wf (fun hwf2 => ?_)
  obtain ⟨t2, s2, hv2, hM2, hk2, h02⟩ := hp776
  subst hv2
  have hI2 := inv_ask hwf1 hwf2 hcalm rfl ho hk2 hM2 h02 hg hr
  refine g_astore C dL_law_779 (by decide) rfl ?_
  refine g_goto (tgt := 2213) C dL_law_781 (by decide) ?_
  exact g_drop 5 (g_drop 6 (g_widen (by omega) (by omega) (kk _ hI2)))
set_option maxHeartbeats 4000000 in
set_option maxRecDepth 100000 in
theorem lc_alike {K : KC} {E : GE} {X : XT} {b N : Nat} {f : Nat → Int} {x m o t k n : Nat} {w : Wd} (LX : LawX K E X b N f) (ht : 5 * t + 5 ≤ N) (hI : INV x m o t w) (hk : k + 2000 ≤ 929463) (hn : n + 80000 ≤ 6313092) (kk : ∀ w', INV x m o (t + 1) w' → G E X 7 2213 (LL b x m o t) [] w' (k + 2000) (n + 80000)) : G E X 7 784 (LL b x m o t) [] w k n := by
  obtain ⟨C, hT, hH, hls, ⟨hRf, hRl, hRc, hRs⟩, hS⟩ := LX
  have hf := hS.2.2.2.1
  have hN := hS.2.2.2.2
  obtain ⟨τ, ad, bs, ss, pb, P, Q, ct, A, th, ba, st, pm, le, ri, sp, cm, hC, hM, hx, ho, ⟨n0, s0, hO0⟩, hg, hr⟩ := hI
  subst hx
  refine g_wf (fun hwf => ?_)
  refine g_aload_n C dL_law_784 rfl ?_
  refine g_aload_n C dL_law_785 rfl ?_
  refine g_iload C dL_law_786 rfl ?_
  refine g_iconst C dL_law_788 ?_
  refine g_iadd C dL_law_789 ?_
  refine g_sld (5 * t + 1) C hS (by omega) (by omega) dL_law_790 ?_
  refine g_aload_n C dL_law_791 rfl ?_
  refine x_callH C hT hH (w_L_alike _ hls hC ho hO0 (hf (5 * t + 1))) ml_RL_216 sm_yL_alike in_RL co_yL_alike hd_L_alike rfl ⟨by omega, by omega⟩ rfl (Nat.le_of_ble_eq_true rfl) ⟨by omega, by omega⟩ dL_law_792 (fun v1 w1 hp => ?_)
  refine g_wf (fun hwf1 => ?_)
  obtain ⟨⟨k1, hv1, hk1⟩, hcalm⟩ := a_alike hC ho ⟨n0, s0, hO0⟩ hp
  subst hv1
  have hkm : KM τ w w1 := by
    obtain ⟨_, _, _, _, _, _, q, _⟩ := hcalm
    exact q
  have hM1 := hM.keep hkm.2
  refine g_istore C dL_law_795 (by decide) rfl ?_
  refine g_aload_n C dL_law_797 rfl ?_
  refine g_aload_n C dL_law_798 rfl ?_
  refine g_iload C dL_law_799 rfl ?_
  refine g_iconst C dL_law_801 ?_
  refine g_iadd C dL_law_802 ?_
  refine g_sld (5 * t + 1) C hS (by omega) (by omega) dL_law_803 ?_
  refine g_callV C (c_X8_alike _ (hf (5 * t + 1)) hM1 hg.1 hg.2.1) (ci := 10) rfl hM1.o rfl ml_RL_218 im_yX8_alike se_RX8_yX8_alike in_RX8 co_yX8_alike hd_X8_alike rfl ⟨by omega, by omega⟩ rfl (Nat.le_of_ble_eq_true rfl) ⟨by omega, by omega⟩ dL_law_804 (fun v804 w804 hp804 => ?_)
  refine g_wf (fun hwf2 => ?_)
  obtain ⟨t2, ans, hv2, hM2, hk2, hcs⟩ := hp804
  subst hv2
  have h02 : 0 ≤ t2 ∧ t2 ≤ 2 := by omega
  have hI2 := inv_ask hwf1 hwf2 hcalm rfl ho hk2 hM2 h02 hg hr
  refine g_istore C dL_law_807 (by decide) rfl ?_
  refine g_goto (tgt := 2213) C dL_law_809 (by decide) ?_
  exact g_drop 5 (g_drop 6 (g_widen (by omega) (by omega) (kk _ hI2)))
set_option maxHeartbeats 4000000 in
set_option maxRecDepth 100000 in
theorem lc_rootText {K : KC} {E : GE} {X : XT} {b N : Nat} {f : Nat → Int} {x m o t k n : Nat} {w : Wd} (LX : LawX K E X b N f) (ht : 5 * t + 5 ≤ N) (hI : INV x m o t w) (hk : k + 2000 ≤ 929463) (hn : n + 80000 ≤ 6313092) (kk : ∀ w', INV x m o (t + 1) w' → G E X 7 2213 (LL b x m o t) [] w' (k + 2000) (n + 80000)) : G E X 7 812 (LL b x m o t) [] w k n := by
  obtain ⟨C, hT, hH, hls, ⟨hRf, hRl, hRc, hRs⟩, hS⟩ := LX
  have hf := hS.2.2.2.1
  have hN := hS.2.2.2.2
  obtain ⟨τ, ad, bs, ss, pb, P, Q, ct, A, th, ba, st, pm, le, ri, sp, cm, hC, hM, hx, ho, ⟨n0, s0, hO0⟩, hg, hr⟩ := hI
  subst hx
  refine g_wf (fun hwf => ?_)
  refine g_aload_n C dL_law_812 rfl ?_
  refine g_aload_n C dL_law_813 rfl ?_
  refine g_iload C dL_law_814 rfl ?_
  refine g_iconst C dL_law_816 ?_
  refine g_iadd C dL_law_817 ?_
  refine g_sld (5 * t + 1) C hS (by omega) (by omega) dL_law_818 ?_
  refine g_aload_n C dL_law_819 rfl ?_
  refine g_iload C dL_law_820 rfl ?_
  refine g_iconst C dL_law_822 ?_
  refine g_iadd C dL_law_823 ?_
  refine g_sld (5 * t + 2) C hS (by omega) (by omega) dL_law_824 ?_
  refine g_aload_n C dL_law_825 rfl ?_
  refine x_callH C hT hH (w_L_rootText _ hls hC ho hO0 (hf (5 * t + 1)) (hf (5 * t + 2))) ml_RL_219 sm_yL_rootText in_RL co_yL_rootText hd_L_rootText rfl ⟨by omega, by omega⟩ rfl (Nat.le_of_ble_eq_true rfl) ⟨by omega, by omega⟩ dL_law_826 (fun v1 w1 hp => ?_)
  refine g_wf (fun hwf1 => ?_)
  obtain ⟨⟨k1, hv1, hk1⟩, hcalm⟩ := a_rootText hC ho ⟨n0, s0, hO0⟩ hp
  subst hv1
  have hkm : KM τ w w1 := by
    obtain ⟨_, _, _, _, _, _, q, _⟩ := hcalm
    exact q
  have hM1 := hM.keep hkm.2
  refine g_istore C dL_law_829 (by decide) rfl ?_
  refine g_aload_n C dL_law_831 rfl ?_
  refine g_aload_n C dL_law_832 rfl ?_
  refine g_iload C dL_law_833 rfl ?_
  refine g_iconst C dL_law_835 ?_
  refine g_iadd C dL_law_836 ?_
  refine g_sld (5 * t + 1) C hS (by omega) (by omega) dL_law_837 ?_
  refine g_aload_n C dL_law_838 rfl ?_
  refine g_iload C dL_law_839 rfl ?_
  refine g_iconst C dL_law_841 ?_
  refine g_iadd C dL_law_842 ?_
  refine g_sld (5 * t + 2) C hS (by omega) (by omega) dL_law_843 ?_
  refine t_callV C hT (c_X8_rootText _ (hf (5 * t + 1)) (hf (5 * t + 2)) hM1) (RcV.ob (ci := 10) C rfl hM1.o) rfl ml_RL_221 im_yX8_rootText se_RX8_yX8_rootText in_RX8 co_yX8_rootText hd_X8_rootText rfl ⟨by omega, by omega⟩ rfl (Nat.le_of_ble_eq_true rfl) ⟨by omega, by omega⟩ dL_law_844 (fun v844 w844 hp844 => ?_)
  refine g_wf (fun hwf2 => ?_)
  obtain ⟨t2, s2, hv2, hM2, hk2, h02⟩ := hp844
  subst hv2
  have hI2 := inv_ask hwf1 hwf2 hcalm rfl ho hk2 hM2 h02 hg hr
  refine g_astore C dL_law_847 (by decide) rfl ?_
  refine g_goto (tgt := 2213) C dL_law_849 (by decide) ?_
  exact g_drop 5 (g_drop 6 (g_widen (by omega) (by omega) (kk _ hI2)))
set_option maxHeartbeats 4000000 in
set_option maxRecDepth 100000 in
theorem lc_period {K : KC} {E : GE} {X : XT} {b N : Nat} {f : Nat → Int} {x m o t k n : Nat} {w : Wd} (LX : LawX K E X b N f) (ht : 5 * t + 5 ≤ N) (hI : INV x m o t w) (hk : k + 2000 ≤ 929463) (hn : n + 80000 ≤ 6313092) (kk : ∀ w', INV x m o (t + 1) w' → G E X 7 2213 (LL b x m o t) [] w' (k + 2000) (n + 80000)) : G E X 7 852 (LL b x m o t) [] w k n := by
  obtain ⟨C, hT, hH, hls, ⟨hRf, hRl, hRc, hRs⟩, hS⟩ := LX
  have hf := hS.2.2.2.1
  have hN := hS.2.2.2.2
  obtain ⟨τ, ad, bs, ss, pb, P, Q, ct, A, th, ba, st, pm, le, ri, sp, cm, hC, hM, hx, ho, ⟨n0, s0, hO0⟩, hg, hr⟩ := hI
  subst hx
  refine g_wf (fun hwf => ?_)
  refine g_aload_n C dL_law_852 rfl ?_
  refine g_aload_n C dL_law_853 rfl ?_
  refine g_iload C dL_law_854 rfl ?_
  refine g_iconst C dL_law_856 ?_
  refine g_iadd C dL_law_857 ?_
  refine g_sld (5 * t + 1) C hS (by omega) (by omega) dL_law_858 ?_
  refine g_aload_n C dL_law_859 rfl ?_
  refine x_callH C hT hH (w_L_period _ hls hC ho hO0 (hf (5 * t + 1))) ml_RL_222 sm_yL_period in_RL co_yL_period hd_L_period rfl ⟨by omega, by omega⟩ rfl (Nat.le_of_ble_eq_true rfl) ⟨by omega, by omega⟩ dL_law_860 (fun v1 w1 hp => ?_)
  refine g_wf (fun hwf1 => ?_)
  obtain ⟨⟨k1, hv1, hk1⟩, hcalm⟩ := a_period hC ho ⟨n0, s0, hO0⟩ hp
  subst hv1
  have hkm : KM τ w w1 := by
    obtain ⟨_, _, _, _, _, _, q, _⟩ := hcalm
    exact q
  have hM1 := hM.keep hkm.2
  refine g_istore C dL_law_863 (by decide) rfl ?_
  refine g_aload_n C dL_law_865 rfl ?_
  refine g_aload_n C dL_law_866 rfl ?_
  refine g_iload C dL_law_867 rfl ?_
  refine g_iconst C dL_law_869 ?_
  refine g_iadd C dL_law_870 ?_
  refine g_sld (5 * t + 1) C hS (by omega) (by omega) dL_law_871 ?_
  refine g_callV C (c_X8_period _ (hf (5 * t + 1)) hM1) (ci := 10) rfl hM1.o rfl ml_RL_224 im_yX8_period se_RX8_yX8_period in_RX8 co_yX8_period hd_X8_period rfl ⟨by omega, by omega⟩ rfl (Nat.le_of_ble_eq_true rfl) ⟨by omega, by omega⟩ dL_law_872 (fun v872 w872 hp872 => ?_)
  refine g_wf (fun hwf2 => ?_)
  obtain ⟨t2, ans, hv2, hM2, hk2, hcs⟩ := hp872
  subst hv2
  have h02 : 0 ≤ t2 ∧ t2 ≤ 2 := by omega
  have hI2 := inv_ask hwf1 hwf2 hcalm rfl ho hk2 hM2 h02 hg hr
  refine g_istore C dL_law_875 (by decide) rfl ?_
  refine g_goto (tgt := 2213) C dL_law_877 (by decide) ?_
  exact g_drop 5 (g_drop 6 (g_widen (by omega) (by omega) (kk _ hI2)))
set_option maxHeartbeats 4000000 in
set_option maxRecDepth 100000 in
theorem lc_periodText {K : KC} {E : GE} {X : XT} {b N : Nat} {f : Nat → Int} {x m o t k n : Nat} {w : Wd} (LX : LawX K E X b N f) (ht : 5 * t + 5 ≤ N) (hI : INV x m o t w) (hk : k + 2000 ≤ 929463) (hn : n + 80000 ≤ 6313092) (kk : ∀ w', INV x m o (t + 1) w' → G E X 7 2213 (LL b x m o t) [] w' (k + 2000) (n + 80000)) : G E X 7 880 (LL b x m o t) [] w k n := by
  obtain ⟨C, hT, hH, hls, ⟨hRf, hRl, hRc, hRs⟩, hS⟩ := LX
  have hf := hS.2.2.2.1
  have hN := hS.2.2.2.2
  obtain ⟨τ, ad, bs, ss, pb, P, Q, ct, A, th, ba, st, pm, le, ri, sp, cm, hC, hM, hx, ho, ⟨n0, s0, hO0⟩, hg, hr⟩ := hI
  subst hx
  refine g_wf (fun hwf => ?_)
  refine g_aload_n C dL_law_880 rfl ?_
  refine g_aload_n C dL_law_881 rfl ?_
  refine g_iload C dL_law_882 rfl ?_
  refine g_iconst C dL_law_884 ?_
  refine g_iadd C dL_law_885 ?_
  refine g_sld (5 * t + 1) C hS (by omega) (by omega) dL_law_886 ?_
  refine g_aload_n C dL_law_887 rfl ?_
  refine x_callH C hT hH (w_L_periodText _ hls hC ho hO0 (hf (5 * t + 1))) ml_RL_225 sm_yL_periodText in_RL co_yL_periodText hd_L_periodText rfl ⟨by omega, by omega⟩ rfl (Nat.le_of_ble_eq_true rfl) ⟨by omega, by omega⟩ dL_law_888 (fun v1 w1 hp => ?_)
  refine g_wf (fun hwf1 => ?_)
  obtain ⟨⟨k1, hv1, hk1⟩, hcalm⟩ := a_periodText hC ho ⟨n0, s0, hO0⟩ hp
  subst hv1
  have hkm : KM τ w w1 := by
    obtain ⟨_, _, _, _, _, _, q, _⟩ := hcalm
    exact q
  have hM1 := hM.keep hkm.2
  refine g_istore C dL_law_891 (by decide) rfl ?_
  refine g_aload_n C dL_law_893 rfl ?_
  refine g_aload_n C dL_law_894 rfl ?_
  refine g_iload C dL_law_895 rfl ?_
  refine g_iconst C dL_law_897 ?_
  refine g_iadd C dL_law_898 ?_
  refine g_sld (5 * t + 1) C hS (by omega) (by omega) dL_law_899 ?_
  refine t_callV C hT (c_X8_periodText _ (hf (5 * t + 1)) hM1) (RcV.ob (ci := 10) C rfl hM1.o) rfl ml_RL_227 im_yX8_periodText se_RX8_yX8_periodText in_RX8 co_yX8_periodText hd_X8_periodText rfl ⟨by omega, by omega⟩ rfl (Nat.le_of_ble_eq_true rfl) ⟨by omega, by omega⟩ dL_law_900 (fun v900 w900 hp900 => ?_)
  refine g_wf (fun hwf2 => ?_)
  obtain ⟨t2, s2, hv2, hM2, hk2, h02⟩ := hp900
  subst hv2
  have hI2 := inv_ask hwf1 hwf2 hcalm rfl ho hk2 hM2 h02 hg hr
  refine g_astore C dL_law_903 (by decide) rfl ?_
  refine g_goto (tgt := 2213) C dL_law_905 (by decide) ?_
  exact g_drop 5 (g_drop 6 (g_widen (by omega) (by omega) (kk _ hI2)))
set_option maxHeartbeats 4000000 in
set_option maxRecDepth 100000 in
theorem lc_solution {K : KC} {E : GE} {X : XT} {b N : Nat} {f : Nat → Int} {x m o t k n : Nat} {w : Wd} (LX : LawX K E X b N f) (ht : 5 * t + 5 ≤ N) (hI : INV x m o t w) (hk : k + 2000 ≤ 929463) (hn : n + 80000 ≤ 6313092) (kk : ∀ w', INV x m o (t + 1) w' → G E X 7 2213 (LL b x m o t) [] w' (k + 2000) (n + 80000)) : G E X 7 908 (LL b x m o t) [] w k n := by
  obtain ⟨C, hT, hH, hls, ⟨hRf, hRl, hRc, hRs⟩, hS⟩ := LX
  have hf := hS.2.2.2.1
  have hN := hS.2.2.2.2
  obtain ⟨τ, ad, bs, ss, pb, P, Q, ct, A, th, ba, st, pm, le, ri, sp, cm, hC, hM, hx, ho, ⟨n0, s0, hO0⟩, hg, hr⟩ := hI
  subst hx
  refine g_wf (fun hwf => ?_)
  refine g_aload_n C dL_law_908 rfl ?_
  refine g_aload_n C dL_law_909 rfl ?_
  refine g_iload C dL_law_910 rfl ?_
  refine g_iconst C dL_law_912 ?_
  refine g_iadd C dL_law_913 ?_
  refine g_sld (5 * t + 1) C hS (by omega) (by omega) dL_law_914 ?_
  refine g_aload_n C dL_law_915 rfl ?_
  refine g_iload C dL_law_916 rfl ?_
  refine g_iconst C dL_law_918 ?_
  refine g_iadd C dL_law_919 ?_
  refine g_sld (5 * t + 2) C hS (by omega) (by omega) dL_law_920 ?_
  refine g_bool C (hf _) dL_law_921 dL_law_924 dL_law_925 dL_law_928 ?_
  refine g_aload_n C dL_law_929 rfl ?_
  refine x_callH C hT hH (w_L_solution _ hls hC ho hO0 (hf (5 * t + 1)) (bI_01 _)) ml_RL_228 sm_yL_solution in_RL co_yL_solution hd_L_solution rfl ⟨by omega, by omega⟩ rfl (Nat.le_of_ble_eq_true rfl) ⟨by omega, by omega⟩ dL_law_930 (fun v1 w1 hp => ?_)
  refine g_wf (fun hwf1 => ?_)
  obtain ⟨⟨k1, hv1, hk1⟩, hcalm⟩ := a_solution hC ho ⟨n0, s0, hO0⟩ (y := bI (f (5 * t + 2) ≠ 0)) hp
  subst hv1
  have hkm : KM τ w w1 := by
    obtain ⟨_, _, _, _, _, _, q, _⟩ := hcalm
    exact q
  have hM1 := hM.keep hkm.2
  refine g_istore C dL_law_933 (by decide) rfl ?_
  refine g_aload_n C dL_law_935 rfl ?_
  refine g_aload_n C dL_law_936 rfl ?_
  refine g_iload C dL_law_937 rfl ?_
  refine g_iconst C dL_law_939 ?_
  refine g_iadd C dL_law_940 ?_
  refine g_sld (5 * t + 1) C hS (by omega) (by omega) dL_law_941 ?_
  refine g_aload_n C dL_law_942 rfl ?_
  refine g_iload C dL_law_943 rfl ?_
  refine g_iconst C dL_law_945 ?_
  refine g_iadd C dL_law_946 ?_
  refine g_sld (5 * t + 2) C hS (by omega) (by omega) dL_law_947 ?_
  refine g_bool C (hf _) dL_law_948 dL_law_951 dL_law_952 dL_law_955 ?_
  refine t_callV C hT (c_X8_solution _ (hf (5 * t + 1)) (bI_01 _) hM1) (RcV.ob (ci := 10) C rfl hM1.o) rfl ml_RL_231 im_yX8_solution se_RX8_yX8_solution in_RX8 co_yX8_solution hd_X8_solution rfl ⟨by omega, by omega⟩ rfl (Nat.le_of_ble_eq_true rfl) ⟨by omega, by omega⟩ dL_law_956 (fun v956 w956 hp956 => ?_)
  refine g_wf (fun hwf2 => ?_)
  obtain ⟨t2, s2, hv2, hM2, hk2, h02⟩ := hp956
  subst hv2
  have hI2 := inv_ask hwf1 hwf2 hcalm rfl ho hk2 hM2 h02 hg hr
  refine g_astore C dL_law_959 (by decide) rfl ?_
  refine g_goto (tgt := 2213) C dL_law_961 (by decide) ?_
  exact g_drop 5 (g_drop 6 (g_widen (by omega) (by omega) (kk _ hI2)))
set_option maxHeartbeats 4000000 in
set_option maxRecDepth 100000 in
theorem lc_minus {K : KC} {E : GE} {X : XT} {b N : Nat} {f : Nat → Int} {x m o t k n : Nat} {w : Wd} (LX : LawX K E X b N f) (ht : 5 * t + 5 ≤ N) (hI : INV x m o t w) (hk : k + 2000 ≤ 929463) (hn : n + 80000 ≤ 6313092) (kk : ∀ w', INV x m o (t + 1) w' → G E X 7 2213 (LL b x m o t) [] w' (k + 2000) (n + 80000)) : G E X 7 964 (LL b x m o t) [] w k n := by
  obtain ⟨C, hT, hH, hls, ⟨hRf, hRl, hRc, hRs⟩, hS⟩ := LX
  have hf := hS.2.2.2.1
  have hN := hS.2.2.2.2
  obtain ⟨τ, ad, bs, ss, pb, P, Q, ct, A, th, ba, st, pm, le, ri, sp, cm, hC, hM, hx, ho, ⟨n0, s0, hO0⟩, hg, hr⟩ := hI
  subst hx
  refine g_wf (fun hwf => ?_)
  refine g_aload_n C dL_law_964 rfl ?_
  refine g_aload_n C dL_law_965 rfl ?_
  refine g_iload C dL_law_966 rfl ?_
  refine g_iconst C dL_law_968 ?_
  refine g_iadd C dL_law_969 ?_
  refine g_sld (5 * t + 1) C hS (by omega) (by omega) dL_law_970 ?_
  refine g_aload_n C dL_law_971 rfl ?_
  refine g_iload C dL_law_972 rfl ?_
  refine g_iconst C dL_law_974 ?_
  refine g_iadd C dL_law_975 ?_
  refine g_sld (5 * t + 2) C hS (by omega) (by omega) dL_law_976 ?_
  refine g_bool C (hf _) dL_law_977 dL_law_980 dL_law_981 dL_law_984 ?_
  refine g_aload_n C dL_law_985 rfl ?_
  refine x_callH C hT hH (w_L_minus _ hls hC ho hO0 (hf (5 * t + 1)) (bI_01 _)) ml_RL_232 sm_yL_minus in_RL co_yL_minus hd_L_minus rfl ⟨by omega, by omega⟩ rfl (Nat.le_of_ble_eq_true rfl) ⟨by omega, by omega⟩ dL_law_986 (fun v1 w1 hp => ?_)
  refine g_wf (fun hwf1 => ?_)
  obtain ⟨⟨k1, hv1, hk1⟩, hcalm⟩ := a_minus hC ho ⟨n0, s0, hO0⟩ (y := bI (f (5 * t + 2) ≠ 0)) hp
  subst hv1
  have hkm : KM τ w w1 := by
    obtain ⟨_, _, _, _, _, _, q, _⟩ := hcalm
    exact q
  have hM1 := hM.keep hkm.2
  refine g_istore C dL_law_989 (by decide) rfl ?_
  refine g_aload_n C dL_law_991 rfl ?_
  refine g_aload_n C dL_law_992 rfl ?_
  refine g_iload C dL_law_993 rfl ?_
  refine g_iconst C dL_law_995 ?_
  refine g_iadd C dL_law_996 ?_
  refine g_sld (5 * t + 1) C hS (by omega) (by omega) dL_law_997 ?_
  refine g_aload_n C dL_law_998 rfl ?_
  refine g_iload C dL_law_999 rfl ?_
  refine g_iconst C dL_law_1001 ?_
  refine g_iadd C dL_law_1002 ?_
  refine g_sld (5 * t + 2) C hS (by omega) (by omega) dL_law_1003 ?_
  refine g_bool C (hf _) dL_law_1004 dL_law_1007 dL_law_1008 dL_law_1011 ?_
  refine t_callV C hT (c_X8_minus_ _ (hf (5 * t + 1)) (bI_01 _) hM1) (RcV.ob (ci := 10) C rfl hM1.o) rfl ml_RL_234 im_yX8_minus_ se_RX8_yX8_minus_ in_RX8 co_yX8_minus_ hd_X8_minus_ rfl ⟨by omega, by omega⟩ rfl (Nat.le_of_ble_eq_true rfl) ⟨by omega, by omega⟩ dL_law_1012 (fun v1012 w1012 hp1012 => ?_)
  refine g_wf (fun hwf2 => ?_)
  obtain ⟨t2, s2, hv2, hM2, hk2, h02⟩ := hp1012
  subst hv2
  have hI2 := inv_ask hwf1 hwf2 hcalm rfl ho hk2 hM2 h02 hg hr
  refine g_astore C dL_law_1015 (by decide) rfl ?_
  refine g_goto (tgt := 2213) C dL_law_1017 (by decide) ?_
  exact g_drop 5 (g_drop 6 (g_widen (by omega) (by omega) (kk _ hI2)))
set_option maxHeartbeats 4000000 in
set_option maxRecDepth 100000 in
theorem lc_middle {K : KC} {E : GE} {X : XT} {b N : Nat} {f : Nat → Int} {x m o t k n : Nat} {w : Wd} (LX : LawX K E X b N f) (ht : 5 * t + 5 ≤ N) (hI : INV x m o t w) (hk : k + 2000 ≤ 929463) (hn : n + 80000 ≤ 6313092) (kk : ∀ w', INV x m o (t + 1) w' → G E X 7 2213 (LL b x m o t) [] w' (k + 2000) (n + 80000)) : G E X 7 1020 (LL b x m o t) [] w k n := by
  obtain ⟨C, hT, hH, hls, ⟨hRf, hRl, hRc, hRs⟩, hS⟩ := LX
  have hf := hS.2.2.2.1
  have hN := hS.2.2.2.2
  obtain ⟨τ, ad, bs, ss, pb, P, Q, ct, A, th, ba, st, pm, le, ri, sp, cm, hC, hM, hx, ho, ⟨n0, s0, hO0⟩, hg, hr⟩ := hI
  subst hx
  refine g_wf (fun hwf => ?_)
  refine g_aload_n C dL_law_1020 rfl ?_
  refine g_aload_n C dL_law_1021 rfl ?_
  refine g_iload C dL_law_1022 rfl ?_
  refine g_iconst C dL_law_1024 ?_
  refine g_iadd C dL_law_1025 ?_
  refine g_sld (5 * t + 1) C hS (by omega) (by omega) dL_law_1026 ?_
  refine g_aload_n C dL_law_1027 rfl ?_
  refine x_callH C hT hH (w_L_middle _ hls hC ho hO0 (hf (5 * t + 1))) ml_RL_235 sm_yL_middle in_RL co_yL_middle hd_L_middle rfl ⟨by omega, by omega⟩ rfl (Nat.le_of_ble_eq_true rfl) ⟨by omega, by omega⟩ dL_law_1028 (fun v1 w1 hp => ?_)
  refine g_wf (fun hwf1 => ?_)
  obtain ⟨⟨k1, hv1, hk1⟩, hcalm⟩ := a_middle hC ho ⟨n0, s0, hO0⟩ hp
  subst hv1
  have hkm : KM τ w w1 := by
    obtain ⟨_, _, _, _, _, _, q, _⟩ := hcalm
    exact q
  have hM1 := hM.keep hkm.2
  refine g_istore C dL_law_1031 (by decide) rfl ?_
  refine g_aload_n C dL_law_1033 rfl ?_
  refine g_aload_n C dL_law_1034 rfl ?_
  refine g_iload C dL_law_1035 rfl ?_
  refine g_iconst C dL_law_1037 ?_
  refine g_iadd C dL_law_1038 ?_
  refine g_sld (5 * t + 1) C hS (by omega) (by omega) dL_law_1039 ?_
  refine t_callV C hT (c_X8_middle _ (hf (5 * t + 1)) hM1) (RcV.ob (ci := 10) C rfl hM1.o) rfl ml_RL_237 im_yX8_middle se_RX8_yX8_middle in_RX8 co_yX8_middle hd_X8_middle rfl ⟨by omega, by omega⟩ rfl (Nat.le_of_ble_eq_true rfl) ⟨by omega, by omega⟩ dL_law_1040 (fun v1040 w1040 hp1040 => ?_)
  refine g_wf (fun hwf2 => ?_)
  obtain ⟨t2, s2, hv2, hM2, hk2, h02⟩ := hp1040
  subst hv2
  have hI2 := inv_ask hwf1 hwf2 hcalm rfl ho hk2 hM2 h02 hg hr
  refine g_astore C dL_law_1043 (by decide) rfl ?_
  refine g_goto (tgt := 2213) C dL_law_1045 (by decide) ?_
  exact g_drop 5 (g_drop 6 (g_widen (by omega) (by omega) (kk _ hI2)))
set_option maxHeartbeats 4000000 in
set_option maxRecDepth 100000 in
theorem lc_put {K : KC} {E : GE} {X : XT} {b N : Nat} {f : Nat → Int} {x m o t k n : Nat} {w : Wd} (LX : LawX K E X b N f) (ht : 5 * t + 5 ≤ N) (hI : INV x m o t w) (hk : k + 2000 ≤ 929463) (hn : n + 80000 ≤ 6313092) (kk : ∀ w', INV x m o (t + 1) w' → G E X 7 2213 (LL b x m o t) [] w' (k + 2000) (n + 80000)) : G E X 7 1048 (LL b x m o t) [] w k n := by
  obtain ⟨C, hT, hH, hls, ⟨hRf, hRl, hRc, hRs⟩, hS⟩ := LX
  have hf := hS.2.2.2.1
  have hN := hS.2.2.2.2
  obtain ⟨τ, ad, bs, ss, pb, P, Q, ct, A, th, ba, st, pm, le, ri, sp, cm, hC, hM, hx, ho, ⟨n0, s0, hO0⟩, hg, hr⟩ := hI
  subst hx
  refine g_wf (fun hwf => ?_)
  refine g_aload_n C dL_law_1048 rfl ?_
  refine g_aload_n C dL_law_1049 rfl ?_
  refine g_iload C dL_law_1050 rfl ?_
  refine g_iconst C dL_law_1052 ?_
  refine g_iadd C dL_law_1053 ?_
  refine g_sld (5 * t + 1) C hS (by omega) (by omega) dL_law_1054 ?_
  refine g_aload_n C dL_law_1055 rfl ?_
  refine g_iload C dL_law_1056 rfl ?_
  refine g_iconst C dL_law_1058 ?_
  refine g_iadd C dL_law_1059 ?_
  refine g_sld (5 * t + 2) C hS (by omega) (by omega) dL_law_1060 ?_
  refine g_aload_n C dL_law_1061 rfl ?_
  refine g_iload C dL_law_1062 rfl ?_
  refine g_iconst C dL_law_1064 ?_
  refine g_iadd C dL_law_1065 ?_
  refine g_sld (5 * t + 3) C hS (by omega) (by omega) dL_law_1066 ?_
  refine g_aload_n C dL_law_1067 rfl ?_
  refine g_iload C dL_law_1068 rfl ?_
  refine g_iconst C dL_law_1070 ?_
  refine g_iadd C dL_law_1071 ?_
  refine g_sld (5 * t + 4) C hS (by omega) (by omega) dL_law_1072 ?_
  refine g_aload_n C dL_law_1073 rfl ?_
  refine x_callH C hT hH (w_L_put _ hls hC ho hO0 (hf (5 * t + 1)) (hf (5 * t + 2)) (hf (5 * t + 3)) (hf (5 * t + 4))) ml_RL_238 sm_yL_put in_RL co_yL_put hd_L_put rfl ⟨by omega, by omega⟩ rfl (Nat.le_of_ble_eq_true rfl) ⟨by omega, by omega⟩ dL_law_1074 (fun v1 w1 hp => ?_)
  refine g_wf (fun hwf1 => ?_)
  obtain ⟨k1, nv, pb1, ct1, hv1, hOV, hnv, ⟨⟨pb2, hp2, hC1⟩, hkm⟩, hD⟩ := a_put hC ho ⟨n0, s0, hO0⟩ hp
  subst hv1
  have hM1 := hM.keep hkm.2
  refine g_istore C dL_law_1077 (by decide) rfl ?_
  refine g_aload_n C dL_law_1079 rfl ?_
  refine g_aload_n C dL_law_1080 rfl ?_
  refine g_iload C dL_law_1081 rfl ?_
  refine g_iconst C dL_law_1083 ?_
  refine g_iadd C dL_law_1084 ?_
  refine g_sld (5 * t + 1) C hS (by omega) (by omega) dL_law_1085 ?_
  refine g_aload_n C dL_law_1086 rfl ?_
  refine g_iload C dL_law_1087 rfl ?_
  refine g_iconst C dL_law_1089 ?_
  refine g_iadd C dL_law_1090 ?_
  refine g_sld (5 * t + 2) C hS (by omega) (by omega) dL_law_1091 ?_
  refine g_aload_n C dL_law_1092 rfl ?_
  refine g_iload C dL_law_1093 rfl ?_
  refine g_iconst C dL_law_1095 ?_
  refine g_iadd C dL_law_1096 ?_
  refine g_sld (5 * t + 3) C hS (by omega) (by omega) dL_law_1097 ?_
  refine g_aload_n C dL_law_1098 rfl ?_
  refine g_iload C dL_law_1099 rfl ?_
  refine g_iconst C dL_law_1101 ?_
  refine g_iadd C dL_law_1102 ?_
  refine g_sld (5 * t + 4) C hS (by omega) (by omega) dL_law_1103 ?_
  refine g_callV C (c_X8_put _ (hf (5 * t + 1)) (hf (5 * t + 2)) (hf (5 * t + 3)) (hf (5 * t + 4)) hM1 hg.2.2.1) (ci := 10) rfl hM1.o rfl ml_RL_241 im_yX8_put se_RX8_yX8_put in_RX8 co_yX8_put hd_X8_put rfl ⟨by omega, by omega⟩ rfl (Nat.le_of_ble_eq_true rfl) ⟨by omega, by omega⟩ dL_law_1104 (fun v1104 w1104 hp1104 => ?_)
  refine g_wf (fun hwf2 => ?_)
  obtain ⟨τ2, A2, t2, pm2, le2, ri2, cm2, ans, hτ2, hv2, hM2, hk2, hcs⟩ := hp1104
  subst hv2
  obtain ⟨hg2, hr2, hkk, hans⟩ := b_put hg hr hD hcs
  have hI2 := inv_md hwf1 hwf2 hC1 rfl ho hOV.u hk2 hτ2 hM2 hg2 (rl_pb hp2 hr2)
  refine g_istore C dL_law_1107 (by decide) rfl ?_
  refine g_goto (tgt := 2213) C dL_law_1109 (by decide) ?_
  exact g_drop 5 (g_drop 6 (g_widen (by omega) (by omega) (kk _ hI2)))
set_option maxHeartbeats 4000000 in
set_option maxRecDepth 100000 in
theorem lc_take {K : KC} {E : GE} {X : XT} {b N : Nat} {f : Nat → Int} {x m o t k n : Nat} {w : Wd} (LX : LawX K E X b N f) (ht : 5 * t + 5 ≤ N) (hI : INV x m o t w) (hk : k + 2000 ≤ 929463) (hn : n + 80000 ≤ 6313092) (kk : ∀ w', INV x m o (t + 1) w' → G E X 7 2213 (LL b x m o t) [] w' (k + 2000) (n + 80000)) : G E X 7 1112 (LL b x m o t) [] w k n := by
  obtain ⟨C, hT, hH, hls, ⟨hRf, hRl, hRc, hRs⟩, hS⟩ := LX
  have hf := hS.2.2.2.1
  have hN := hS.2.2.2.2
  obtain ⟨τ, ad, bs, ss, pb, P, Q, ct, A, th, ba, st, pm, le, ri, sp, cm, hC, hM, hx, ho, ⟨n0, s0, hO0⟩, hg, hr⟩ := hI
  subst hx
  refine g_wf (fun hwf => ?_)
  refine g_aload_n C dL_law_1112 rfl ?_
  refine g_aload_n C dL_law_1113 rfl ?_
  refine g_iload C dL_law_1114 rfl ?_
  refine g_iconst C dL_law_1116 ?_
  refine g_iadd C dL_law_1117 ?_
  refine g_sld (5 * t + 1) C hS (by omega) (by omega) dL_law_1118 ?_
  refine g_aload_n C dL_law_1119 rfl ?_
  refine g_iload C dL_law_1120 rfl ?_
  refine g_iconst C dL_law_1122 ?_
  refine g_iadd C dL_law_1123 ?_
  refine g_sld (5 * t + 2) C hS (by omega) (by omega) dL_law_1124 ?_
  refine g_aload_n C dL_law_1125 rfl ?_
  refine x_callH C hT hH (w_L_take _ hls hC ho hO0 (hf (5 * t + 1)) (hf (5 * t + 2))) ml_RL_242 sm_yL_take in_RL co_yL_take hd_L_take rfl ⟨by omega, by omega⟩ rfl (Nat.le_of_ble_eq_true rfl) ⟨by omega, by omega⟩ dL_law_1126 (fun v1 w1 hp => ?_)
  refine g_wf (fun hwf1 => ?_)
  obtain ⟨k1, nv, pb1, ct1, hv1, hOV, hnv, ⟨⟨pb2, hp2, hC1⟩, hkm⟩, hD⟩ := a_take hC ho ⟨n0, s0, hO0⟩ hp
  subst hv1
  have hM1 := hM.keep hkm.2
  refine g_istore C dL_law_1129 (by decide) rfl ?_
  refine g_aload_n C dL_law_1131 rfl ?_
  refine g_aload_n C dL_law_1132 rfl ?_
  refine g_iload C dL_law_1133 rfl ?_
  refine g_iconst C dL_law_1135 ?_
  refine g_iadd C dL_law_1136 ?_
  refine g_sld (5 * t + 1) C hS (by omega) (by omega) dL_law_1137 ?_
  refine g_aload_n C dL_law_1138 rfl ?_
  refine g_iload C dL_law_1139 rfl ?_
  refine g_iconst C dL_law_1141 ?_
  refine g_iadd C dL_law_1142 ?_
  refine g_sld (5 * t + 2) C hS (by omega) (by omega) dL_law_1143 ?_
  refine g_callV C (c_X8_take _ (hf (5 * t + 1)) (hf (5 * t + 2)) hM1 hg.2.2.1 hg.1 hg.2.1) (ci := 10) rfl hM1.o rfl ml_RL_244 im_yX8_take se_RX8_yX8_take in_RX8 co_yX8_take hd_X8_take rfl ⟨by omega, by omega⟩ rfl (Nat.le_of_ble_eq_true rfl) ⟨by omega, by omega⟩ dL_law_1144 (fun v1144 w1144 hp1144 => ?_)
  refine g_wf (fun hwf2 => ?_)
  obtain ⟨τ2, A2, t2, pm2, le2, ri2, cm2, ans, hτ2, hv2, hM2, hk2, hcs⟩ := hp1144
  subst hv2
  obtain ⟨hg2, hr2, hkk, hans⟩ := b_take hg hr hD hcs
  have hI2 := inv_md hwf1 hwf2 hC1 rfl ho hOV.u hk2 hτ2 hM2 hg2 (rl_pb hp2 hr2)
  refine g_istore C dL_law_1147 (by decide) rfl ?_
  refine g_goto (tgt := 2213) C dL_law_1149 (by decide) ?_
  exact g_drop 5 (g_drop 6 (g_widen (by omega) (by omega) (kk _ hI2)))
set_option maxHeartbeats 4000000 in
set_option maxRecDepth 100000 in
theorem lc_least {K : KC} {E : GE} {X : XT} {b N : Nat} {f : Nat → Int} {x m o t k n : Nat} {w : Wd} (LX : LawX K E X b N f) (ht : 5 * t + 5 ≤ N) (hI : INV x m o t w) (hk : k + 2000 ≤ 929463) (hn : n + 80000 ≤ 6313092) (kk : ∀ w', INV x m o (t + 1) w' → G E X 7 2213 (LL b x m o t) [] w' (k + 2000) (n + 80000)) : G E X 7 1152 (LL b x m o t) [] w k n := by
  obtain ⟨C, hT, hH, hls, ⟨hRf, hRl, hRc, hRs⟩, hS⟩ := LX
  have hf := hS.2.2.2.1
  have hN := hS.2.2.2.2
  obtain ⟨τ, ad, bs, ss, pb, P, Q, ct, A, th, ba, st, pm, le, ri, sp, cm, hC, hM, hx, ho, ⟨n0, s0, hO0⟩, hg, hr⟩ := hI
  subst hx
  refine g_wf (fun hwf => ?_)
  refine g_aload_n C dL_law_1152 rfl ?_
  refine g_aload_n C dL_law_1153 rfl ?_
  refine g_iload C dL_law_1154 rfl ?_
  refine g_iconst C dL_law_1156 ?_
  refine g_iadd C dL_law_1157 ?_
  refine g_sld (5 * t + 1) C hS (by omega) (by omega) dL_law_1158 ?_
  refine g_aload_n C dL_law_1159 rfl ?_
  refine g_iload C dL_law_1160 rfl ?_
  refine g_iconst C dL_law_1162 ?_
  refine g_iadd C dL_law_1163 ?_
  refine g_sld (5 * t + 2) C hS (by omega) (by omega) dL_law_1164 ?_
  refine g_aload_n C dL_law_1165 rfl ?_
  refine x_callH C hT hH (w_L_least _ hls hC ho hO0 (hf (5 * t + 1)) (hf (5 * t + 2))) ml_RL_245 sm_yL_least in_RL co_yL_least hd_L_least rfl ⟨by omega, by omega⟩ rfl (Nat.le_of_ble_eq_true rfl) ⟨by omega, by omega⟩ dL_law_1166 (fun v1 w1 hp => ?_)
  refine g_wf (fun hwf1 => ?_)
  obtain ⟨k1, nv, pb1, ct1, hv1, hOV, hnv, ⟨⟨pb2, hp2, hC1⟩, hkm⟩, hD⟩ := a_least hC ho ⟨n0, s0, hO0⟩ hp
  subst hv1
  have hM1 := hM.keep hkm.2
  refine g_istore C dL_law_1169 (by decide) rfl ?_
  refine g_aload_n C dL_law_1171 rfl ?_
  refine g_aload_n C dL_law_1172 rfl ?_
  refine g_iload C dL_law_1173 rfl ?_
  refine g_iconst C dL_law_1175 ?_
  refine g_iadd C dL_law_1176 ?_
  refine g_sld (5 * t + 1) C hS (by omega) (by omega) dL_law_1177 ?_
  refine g_aload_n C dL_law_1178 rfl ?_
  refine g_iload C dL_law_1179 rfl ?_
  refine g_iconst C dL_law_1181 ?_
  refine g_iadd C dL_law_1182 ?_
  refine g_sld (5 * t + 2) C hS (by omega) (by omega) dL_law_1183 ?_
  refine g_callV C (c_X8_least _ (hf (5 * t + 1)) (hf (5 * t + 2)) hM1 hg.2.2.1) (ci := 10) rfl hM1.o rfl ml_RL_247 im_yX8_least se_RX8_yX8_least in_RX8 co_yX8_least hd_X8_least rfl ⟨by omega, by omega⟩ rfl (Nat.le_of_ble_eq_true rfl) ⟨by omega, by omega⟩ dL_law_1184 (fun v1184 w1184 hp1184 => ?_)
  refine g_wf (fun hwf2 => ?_)
  obtain ⟨τ2, A2, t2, pm2, le2, ri2, cm2, ans, hτ2, hv2, hM2, hk2, hcs⟩ := hp1184
  subst hv2
  obtain ⟨hg2, hr2, hkk, hans⟩ := b_least hg hr hD hcs
  have hI2 := inv_md hwf1 hwf2 hC1 rfl ho hOV.u hk2 hτ2 hM2 hg2 (rl_pb hp2 hr2)
  refine g_istore C dL_law_1187 (by decide) rfl ?_
  refine g_goto (tgt := 2213) C dL_law_1189 (by decide) ?_
  exact g_drop 5 (g_drop 6 (g_widen (by omega) (by omega) (kk _ hI2)))
set_option maxHeartbeats 4000000 in
set_option maxRecDepth 100000 in
theorem lc_compose {K : KC} {E : GE} {X : XT} {b N : Nat} {f : Nat → Int} {x m o t k n : Nat} {w : Wd} (LX : LawX K E X b N f) (ht : 5 * t + 5 ≤ N) (hI : INV x m o t w) (hk : k + 2000 ≤ 929463) (hn : n + 80000 ≤ 6313092) (kk : ∀ w', INV x m o (t + 1) w' → G E X 7 2213 (LL b x m o t) [] w' (k + 2000) (n + 80000)) : G E X 7 1192 (LL b x m o t) [] w k n := by
  obtain ⟨C, hT, hH, hls, ⟨hRf, hRl, hRc, hRs⟩, hS⟩ := LX
  have hf := hS.2.2.2.1
  have hN := hS.2.2.2.2
  obtain ⟨τ, ad, bs, ss, pb, P, Q, ct, A, th, ba, st, pm, le, ri, sp, cm, hC, hM, hx, ho, ⟨n0, s0, hO0⟩, hg, hr⟩ := hI
  subst hx
  refine g_wf (fun hwf => ?_)
  refine g_aload_n C dL_law_1192 rfl ?_
  refine g_aload_n C dL_law_1193 rfl ?_
  refine g_iload C dL_law_1194 rfl ?_
  refine g_iconst C dL_law_1196 ?_
  refine g_iadd C dL_law_1197 ?_
  refine g_sld (5 * t + 1) C hS (by omega) (by omega) dL_law_1198 ?_
  refine g_aload_n C dL_law_1199 rfl ?_
  refine g_iload C dL_law_1200 rfl ?_
  refine g_iconst C dL_law_1202 ?_
  refine g_iadd C dL_law_1203 ?_
  refine g_sld (5 * t + 2) C hS (by omega) (by omega) dL_law_1204 ?_
  refine g_aload_n C dL_law_1205 rfl ?_
  refine g_iload C dL_law_1206 rfl ?_
  refine g_iconst C dL_law_1208 ?_
  refine g_iadd C dL_law_1209 ?_
  refine g_sld (5 * t + 3) C hS (by omega) (by omega) dL_law_1210 ?_
  refine g_aload_n C dL_law_1211 rfl ?_
  refine x_callH C hT hH (w_L_compose _ hls hC ho hO0 (hf (5 * t + 1)) (hf (5 * t + 2)) (hf (5 * t + 3))) ml_RL_248 sm_yL_compose in_RL co_yL_compose hd_L_compose rfl ⟨by omega, by omega⟩ rfl (Nat.le_of_ble_eq_true rfl) ⟨by omega, by omega⟩ dL_law_1212 (fun v1 w1 hp => ?_)
  refine g_wf (fun hwf1 => ?_)
  obtain ⟨k1, nv, pb1, ct1, hv1, hOV, hnv, ⟨⟨pb2, hp2, hC1⟩, hkm⟩, hD⟩ := a_compose hC ho ⟨n0, s0, hO0⟩ hp
  subst hv1
  have hM1 := hM.keep hkm.2
  refine g_istore C dL_law_1215 (by decide) rfl ?_
  refine g_aload_n C dL_law_1217 rfl ?_
  refine g_aload_n C dL_law_1218 rfl ?_
  refine g_iload C dL_law_1219 rfl ?_
  refine g_iconst C dL_law_1221 ?_
  refine g_iadd C dL_law_1222 ?_
  refine g_sld (5 * t + 1) C hS (by omega) (by omega) dL_law_1223 ?_
  refine g_aload_n C dL_law_1224 rfl ?_
  refine g_iload C dL_law_1225 rfl ?_
  refine g_iconst C dL_law_1227 ?_
  refine g_iadd C dL_law_1228 ?_
  refine g_sld (5 * t + 2) C hS (by omega) (by omega) dL_law_1229 ?_
  refine g_aload_n C dL_law_1230 rfl ?_
  refine g_iload C dL_law_1231 rfl ?_
  refine g_iconst C dL_law_1233 ?_
  refine g_iadd C dL_law_1234 ?_
  refine g_sld (5 * t + 3) C hS (by omega) (by omega) dL_law_1235 ?_
  refine g_callV C (c_X8_compose _ (hf (5 * t + 1)) (hf (5 * t + 2)) (hf (5 * t + 3)) hM1 hg.2.2.1) (ci := 10) rfl hM1.o rfl ml_RL_250 im_yX8_compose se_RX8_yX8_compose in_RX8 co_yX8_compose hd_X8_compose rfl ⟨by omega, by omega⟩ rfl (Nat.le_of_ble_eq_true rfl) ⟨by omega, by omega⟩ dL_law_1236 (fun v1236 w1236 hp1236 => ?_)
  refine g_wf (fun hwf2 => ?_)
  obtain ⟨τ2, A2, t2, pm2, le2, ri2, cm2, ans, hτ2, hv2, hM2, hk2, hcs⟩ := hp1236
  subst hv2
  obtain ⟨hg2, hr2, hkk, hans⟩ := b_compose hg hr hD hcs
  have hI2 := inv_md hwf1 hwf2 hC1 rfl ho hOV.u hk2 hτ2 hM2 hg2 (rl_pb hp2 hr2)
  refine g_istore C dL_law_1239 (by decide) rfl ?_
  refine g_goto (tgt := 2213) C dL_law_1241 (by decide) ?_
  exact g_drop 5 (g_drop 6 (g_widen (by omega) (by omega) (kk _ hI2)))
set_option maxHeartbeats 4000000 in
set_option maxRecDepth 100000 in
theorem lc_power {K : KC} {E : GE} {X : XT} {b N : Nat} {f : Nat → Int} {x m o t k n : Nat} {w : Wd} (LX : LawX K E X b N f) (ht : 5 * t + 5 ≤ N) (hI : INV x m o t w) (hk : k + 2000 ≤ 929463) (hn : n + 80000 ≤ 6313092) (kk : ∀ w', INV x m o (t + 1) w' → G E X 7 2213 (LL b x m o t) [] w' (k + 2000) (n + 80000)) : G E X 7 1244 (LL b x m o t) [] w k n := by
  obtain ⟨C, hT, hH, hls, ⟨hRf, hRl, hRc, hRs⟩, hS⟩ := LX
  have hf := hS.2.2.2.1
  have hN := hS.2.2.2.2
  obtain ⟨τ, ad, bs, ss, pb, P, Q, ct, A, th, ba, st, pm, le, ri, sp, cm, hC, hM, hx, ho, ⟨n0, s0, hO0⟩, hg, hr⟩ := hI
  subst hx
  refine g_wf (fun hwf => ?_)
  refine g_aload_n C dL_law_1244 rfl ?_
  refine g_aload_n C dL_law_1245 rfl ?_
  refine g_iload C dL_law_1246 rfl ?_
  refine g_iconst C dL_law_1248 ?_
  refine g_iadd C dL_law_1249 ?_
  refine g_sld (5 * t + 1) C hS (by omega) (by omega) dL_law_1250 ?_
  refine g_aload_n C dL_law_1251 rfl ?_
  refine g_iload C dL_law_1252 rfl ?_
  refine g_iconst C dL_law_1254 ?_
  refine g_iadd C dL_law_1255 ?_
  refine g_sld (5 * t + 2) C hS (by omega) (by omega) dL_law_1256 ?_
  refine g_aload_n C dL_law_1257 rfl ?_
  refine x_callH C hT hH (w_L_power _ hls hC ho hO0 (hf (5 * t + 1)) (hf (5 * t + 2))) ml_RL_251 sm_yL_power in_RL co_yL_power hd_L_power rfl ⟨by omega, by omega⟩ rfl (Nat.le_of_ble_eq_true rfl) ⟨by omega, by omega⟩ dL_law_1258 (fun v1 w1 hp => ?_)
  refine g_wf (fun hwf1 => ?_)
  obtain ⟨k1, nv, pb1, ct1, hv1, hOV, hnv, ⟨⟨pb2, hp2, hC1⟩, hkm⟩, hD⟩ := a_power hC ho ⟨n0, s0, hO0⟩ hp
  subst hv1
  have hM1 := hM.keep hkm.2
  refine g_istore C dL_law_1261 (by decide) rfl ?_
  refine g_aload_n C dL_law_1263 rfl ?_
  refine g_aload_n C dL_law_1264 rfl ?_
  refine g_iload C dL_law_1265 rfl ?_
  refine g_iconst C dL_law_1267 ?_
  refine g_iadd C dL_law_1268 ?_
  refine g_sld (5 * t + 1) C hS (by omega) (by omega) dL_law_1269 ?_
  refine g_aload_n C dL_law_1270 rfl ?_
  refine g_iload C dL_law_1271 rfl ?_
  refine g_iconst C dL_law_1273 ?_
  refine g_iadd C dL_law_1274 ?_
  refine g_sld (5 * t + 2) C hS (by omega) (by omega) dL_law_1275 ?_
  refine g_callV C (c_X8_power _ (hf (5 * t + 1)) (hf (5 * t + 2)) hM1 hg.2.2.1) (ci := 10) rfl hM1.o rfl ml_RL_253 im_yX8_power se_RX8_yX8_power in_RX8 co_yX8_power hd_X8_power rfl ⟨by omega, by omega⟩ rfl (Nat.le_of_ble_eq_true rfl) ⟨by omega, by omega⟩ dL_law_1276 (fun v1276 w1276 hp1276 => ?_)
  refine g_wf (fun hwf2 => ?_)
  obtain ⟨τ2, A2, t2, pm2, le2, ri2, cm2, ans, hτ2, hv2, hM2, hk2, hcs⟩ := hp1276
  subst hv2
  obtain ⟨hg2, hr2, hkk, hans⟩ := b_power hg hr hD hcs
  have hI2 := inv_md hwf1 hwf2 hC1 rfl ho hOV.u hk2 hτ2 hM2 hg2 (rl_pb hp2 hr2)
  refine g_istore C dL_law_1279 (by decide) rfl ?_
  refine g_goto (tgt := 2213) C dL_law_1281 (by decide) ?_
  exact g_drop 5 (g_drop 6 (g_widen (by omega) (by omega) (kk _ hI2)))
set_option maxHeartbeats 4000000 in
set_option maxRecDepth 100000 in
theorem lc_mirror {K : KC} {E : GE} {X : XT} {b N : Nat} {f : Nat → Int} {x m o t k n : Nat} {w : Wd} (LX : LawX K E X b N f) (ht : 5 * t + 5 ≤ N) (hI : INV x m o t w) (hk : k + 2000 ≤ 929463) (hn : n + 80000 ≤ 6313092) (kk : ∀ w', INV x m o (t + 1) w' → G E X 7 2213 (LL b x m o t) [] w' (k + 2000) (n + 80000)) : G E X 7 1284 (LL b x m o t) [] w k n := by
  obtain ⟨C, hT, hH, hls, ⟨hRf, hRl, hRc, hRs⟩, hS⟩ := LX
  have hf := hS.2.2.2.1
  have hN := hS.2.2.2.2
  obtain ⟨τ, ad, bs, ss, pb, P, Q, ct, A, th, ba, st, pm, le, ri, sp, cm, hC, hM, hx, ho, ⟨n0, s0, hO0⟩, hg, hr⟩ := hI
  subst hx
  refine g_wf (fun hwf => ?_)
  refine g_aload_n C dL_law_1284 rfl ?_
  refine g_aload_n C dL_law_1285 rfl ?_
  refine g_iload C dL_law_1286 rfl ?_
  refine g_iconst C dL_law_1288 ?_
  refine g_iadd C dL_law_1289 ?_
  refine g_sld (5 * t + 1) C hS (by omega) (by omega) dL_law_1290 ?_
  refine g_aload_n C dL_law_1291 rfl ?_
  refine g_iload C dL_law_1292 rfl ?_
  refine g_iconst C dL_law_1294 ?_
  refine g_iadd C dL_law_1295 ?_
  refine g_sld (5 * t + 2) C hS (by omega) (by omega) dL_law_1296 ?_
  refine g_bool C (hf _) dL_law_1297 dL_law_1300 dL_law_1301 dL_law_1304 ?_
  refine g_aload_n C dL_law_1305 rfl ?_
  refine x_callH C hT hH (w_L_mirror _ hls hC ho hO0 (hf (5 * t + 1)) (bI_01 _)) ml_RL_254 sm_yL_mirror in_RL co_yL_mirror hd_L_mirror rfl ⟨by omega, by omega⟩ rfl (Nat.le_of_ble_eq_true rfl) ⟨by omega, by omega⟩ dL_law_1306 (fun v1 w1 hp => ?_)
  refine g_wf (fun hwf1 => ?_)
  obtain ⟨k1, nv, pb1, ct1, hv1, hOV, hnv, ⟨⟨pb2, hp2, hC1⟩, hkm⟩, hD⟩ := a_mirror hC ho ⟨n0, s0, hO0⟩ hp
  subst hv1
  have hM1 := hM.keep hkm.2
  refine g_istore C dL_law_1309 (by decide) rfl ?_
  refine g_aload_n C dL_law_1311 rfl ?_
  refine g_aload_n C dL_law_1312 rfl ?_
  refine g_iload C dL_law_1313 rfl ?_
  refine g_iconst C dL_law_1315 ?_
  refine g_iadd C dL_law_1316 ?_
  refine g_sld (5 * t + 1) C hS (by omega) (by omega) dL_law_1317 ?_
  refine g_aload_n C dL_law_1318 rfl ?_
  refine g_iload C dL_law_1319 rfl ?_
  refine g_iconst C dL_law_1321 ?_
  refine g_iadd C dL_law_1322 ?_
  refine g_sld (5 * t + 2) C hS (by omega) (by omega) dL_law_1323 ?_
  refine g_bool C (hf _) dL_law_1324 dL_law_1327 dL_law_1328 dL_law_1331 ?_
  refine g_callV C (c_X8_mirror _ (hf (5 * t + 1)) (bI_01 _) hM1 hg.2.2.1) (ci := 10) rfl hM1.o rfl ml_RL_256 im_yX8_mirror se_RX8_yX8_mirror in_RX8 co_yX8_mirror hd_X8_mirror rfl ⟨by omega, by omega⟩ rfl (Nat.le_of_ble_eq_true rfl) ⟨by omega, by omega⟩ dL_law_1332 (fun v1332 w1332 hp1332 => ?_)
  refine g_wf (fun hwf2 => ?_)
  obtain ⟨τ2, A2, t2, pm2, le2, ri2, cm2, ans, hτ2, hv2, hM2, hk2, hcs⟩ := hp1332
  subst hv2
  obtain ⟨hg2, hr2, hkk, hans⟩ := b_mirror hg hr hD hcs
  have hI2 := inv_md hwf1 hwf2 hC1 rfl ho hOV.u hk2 hτ2 hM2 hg2 (rl_pb hp2 hr2)
  obtain ⟨s9, hOV9⟩ := hOV
  have hOV2 := hk2.2 o _ (by omega) hOV9
  have hr9 : k1 = 0 → -2147483648 ≤ ans ∧ ans < 2147483648 := fun q => by rw [← hans q]; exact hnv q
  refine g_istore C dL_law_1335 (by decide) rfl ?_
  refine g_aload_n C dL_law_1337 rfl ?_
  refine g_callV C (c_X8_thrown _ hM2 hg2.2.2.2.2.1) (ci := 10) rfl hM2.o rfl ml_RL_257 im_yX8_thrown se_RX8_yX8_thrown in_RX8 co_yX8_thrown hd_X8_thrown rfl ⟨by omega, by omega⟩ rfl (Nat.le_of_ble_eq_true rfl) ⟨by omega, by omega⟩ dL_law_1338 (fun v1338 w1338 hp1338 => ?_)
  obtain ⟨hv3, hw3⟩ := hp1338
  subst hv3
  subst hw3
  refine g_iload C dL_law_1341 rfl ?_
  refine g_icmp_eq (tgt := 1348) C dL_law_1343 (by decide) (by have := hg2.2.2.2.2.1; omega) (by have := hg2.2.2.2.2.1; omega) (fun h1343 => ?_) (fun h1343 => ?_)
  · refine g_iload C dL_law_1348 rfl ?_
    refine g_if_ne (tgt := 1366) C dL_law_1350 (by decide) (by have := hg2.2.2.2.2.1; omega) (fun h1350 => ?_) (fun h1350 => ?_)
    · refine g_goto (tgt := 2213) C dL_law_1366 (by decide) ?_
      exact g_drop 5 (g_drop 6 (g_widen (by omega) (by omega) (kk _ hI2)))
    · refine g_aload_n C dL_law_1353 rfl ?_
      refine g_getN (ci := 9) C rfl inTX7 0 (by decide) hH.2.2.2.2.2.2.1 rfl hOV2 rfl dL_law_1354 ?_
      refine g_iload C dL_law_1357 rfl ?_
      refine g_i2l C dL_law_1359 (hr9 (by omega)) ?_
      refine g_lcmp C dL_law_1360 (by have h1 := hr9 (by omega); have h2 := hans (by omega); omega) (by have h1 := hr9 (by omega); omega) (fun c1360 hc1360 => ?_)
      refine g_if_eq (tgt := 1366) C dL_law_1361 (by decide) (by omega) (fun h1361 => ?_) (fun h1361 => ?_)
      · refine g_goto (tgt := 2213) C dL_law_1366 (by decide) ?_
        exact g_drop 5 (g_drop 6 (g_widen (by omega) (by omega) (kk _ hI2)))
      · have h2 := hans (by omega)
        omega
  · omega
set_option maxHeartbeats 4000000 in
set_option maxRecDepth 100000 in
theorem lc_divideBy {K : KC} {E : GE} {X : XT} {b N : Nat} {f : Nat → Int} {x m o t k n : Nat} {w : Wd} (LX : LawX K E X b N f) (ht : 5 * t + 5 ≤ N) (hI : INV x m o t w) (hk : k + 2000 ≤ 929463) (hn : n + 80000 ≤ 6313092) (kk : ∀ w', INV x m o (t + 1) w' → G E X 7 2213 (LL b x m o t) [] w' (k + 2000) (n + 80000)) : G E X 7 1369 (LL b x m o t) [] w k n := by
  obtain ⟨C, hT, hH, hls, ⟨hRf, hRl, hRc, hRs⟩, hS⟩ := LX
  have hf := hS.2.2.2.1
  have hN := hS.2.2.2.2
  obtain ⟨τ, ad, bs, ss, pb, P, Q, ct, A, th, ba, st, pm, le, ri, sp, cm, hC, hM, hx, ho, ⟨n0, s0, hO0⟩, hg, hr⟩ := hI
  subst hx
  refine g_wf (fun hwf => ?_)
  refine g_aload_n C dL_law_1369 rfl ?_
  refine g_aload_n C dL_law_1370 rfl ?_
  refine g_iload C dL_law_1371 rfl ?_
  refine g_iconst C dL_law_1373 ?_
  refine g_iadd C dL_law_1374 ?_
  refine g_sld (5 * t + 1) C hS (by omega) (by omega) dL_law_1375 ?_
  refine g_aload_n C dL_law_1376 rfl ?_
  refine g_iload C dL_law_1377 rfl ?_
  refine g_iconst C dL_law_1379 ?_
  refine g_iadd C dL_law_1380 ?_
  refine g_sld (5 * t + 2) C hS (by omega) (by omega) dL_law_1381 ?_
  refine g_aload_n C dL_law_1382 rfl ?_
  refine x_callH C hT hH (w_L_divideBy _ hls hC ho hO0 (hf (5 * t + 1)) (hf (5 * t + 2))) ml_RL_261 sm_yL_divideBy in_RL co_yL_divideBy hd_L_divideBy rfl ⟨by omega, by omega⟩ rfl (Nat.le_of_ble_eq_true rfl) ⟨by omega, by omega⟩ dL_law_1383 (fun v1 w1 hp => ?_)
  refine g_wf (fun hwf1 => ?_)
  obtain ⟨k1, nv, pb1, ct1, hv1, hOV, hnv, ⟨⟨pb2, hp2, hC1⟩, hkm⟩, hD⟩ := a_divideBy hC ho ⟨n0, s0, hO0⟩ hp
  subst hv1
  have hM1 := hM.keep hkm.2
  refine g_istore C dL_law_1386 (by decide) rfl ?_
  refine g_aload_n C dL_law_1388 rfl ?_
  refine g_aload_n C dL_law_1389 rfl ?_
  refine g_iload C dL_law_1390 rfl ?_
  refine g_iconst C dL_law_1392 ?_
  refine g_iadd C dL_law_1393 ?_
  refine g_sld (5 * t + 1) C hS (by omega) (by omega) dL_law_1394 ?_
  refine g_aload_n C dL_law_1395 rfl ?_
  refine g_iload C dL_law_1396 rfl ?_
  refine g_iconst C dL_law_1398 ?_
  refine g_iadd C dL_law_1399 ?_
  refine g_sld (5 * t + 2) C hS (by omega) (by omega) dL_law_1400 ?_
  refine g_callV C (c_X8_divideBy _ (hf (5 * t + 1)) (hf (5 * t + 2)) hM1 hg.2.2.1) (ci := 10) rfl hM1.o rfl ml_RL_263 im_yX8_divideBy se_RX8_yX8_divideBy in_RX8 co_yX8_divideBy hd_X8_divideBy rfl ⟨by omega, by omega⟩ rfl (Nat.le_of_ble_eq_true rfl) ⟨by omega, by omega⟩ dL_law_1401 (fun v1401 w1401 hp1401 => ?_)
  refine g_wf (fun hwf2 => ?_)
  obtain ⟨τ2, A2, t2, pm2, le2, ri2, cm2, ans, hτ2, hv2, hM2, hk2, hcs⟩ := hp1401
  subst hv2
  obtain ⟨hg2, hr2, hkk, hans⟩ := b_divideBy hg hr hD hcs
  have hI2 := inv_md hwf1 hwf2 hC1 rfl ho hOV.u hk2 hτ2 hM2 hg2 (rl_pb hp2 hr2)
  refine g_istore C dL_law_1404 (by decide) rfl ?_
  refine g_goto (tgt := 2213) C dL_law_1406 (by decide) ?_
  exact g_drop 5 (g_drop 6 (g_widen (by omega) (by omega) (kk _ hI2)))
set_option maxHeartbeats 4000000 in
set_option maxRecDepth 100000 in
theorem lc_pairCopy {K : KC} {E : GE} {X : XT} {b N : Nat} {f : Nat → Int} {x m o t k n : Nat} {w : Wd} (LX : LawX K E X b N f) (ht : 5 * t + 5 ≤ N) (hI : INV x m o t w) (hk : k + 2000 ≤ 929463) (hn : n + 80000 ≤ 6313092) (kk : ∀ w', INV x m o (t + 1) w' → G E X 7 2213 (LL b x m o t) [] w' (k + 2000) (n + 80000)) : G E X 7 1409 (LL b x m o t) [] w k n := by
  obtain ⟨C, hT, hH, hls, ⟨hRf, hRl, hRc, hRs⟩, hS⟩ := LX
  have hf := hS.2.2.2.1
  have hN := hS.2.2.2.2
  obtain ⟨τ, ad, bs, ss, pb, P, Q, ct, A, th, ba, st, pm, le, ri, sp, cm, hC, hM, hx, ho, ⟨n0, s0, hO0⟩, hg, hr⟩ := hI
  subst hx
  refine g_wf (fun hwf => ?_)
  refine g_aload_n C dL_law_1409 rfl ?_
  refine g_aload_n C dL_law_1410 rfl ?_
  refine g_iload C dL_law_1411 rfl ?_
  refine g_iconst C dL_law_1413 ?_
  refine g_iadd C dL_law_1414 ?_
  refine g_sld (5 * t + 1) C hS (by omega) (by omega) dL_law_1415 ?_
  refine g_aload_n C dL_law_1416 rfl ?_
  refine g_iload C dL_law_1417 rfl ?_
  refine g_iconst C dL_law_1419 ?_
  refine g_iadd C dL_law_1420 ?_
  refine g_sld (5 * t + 2) C hS (by omega) (by omega) dL_law_1421 ?_
  refine g_aload_n C dL_law_1422 rfl ?_
  refine x_callH C hT hH (w_L_pairCopy _ hls hC ho hO0 (hf (5 * t + 1)) (hf (5 * t + 2))) ml_RL_264 sm_yL_pairCopy in_RL co_yL_pairCopy hd_L_pairCopy rfl ⟨by omega, by omega⟩ rfl (Nat.le_of_ble_eq_true rfl) ⟨by omega, by omega⟩ dL_law_1423 (fun v1 w1 hp => ?_)
  refine g_wf (fun hwf1 => ?_)
  obtain ⟨k1, nv, pb1, ct1, hv1, hOV, hnv, ⟨⟨pb2, hp2, hC1⟩, hkm⟩, hD⟩ := a_pairCopy hC ho ⟨n0, s0, hO0⟩ hp
  subst hv1
  have hM1 := hM.keep hkm.2
  refine g_istore C dL_law_1426 (by decide) rfl ?_
  refine g_aload_n C dL_law_1428 rfl ?_
  refine g_aload_n C dL_law_1429 rfl ?_
  refine g_iload C dL_law_1430 rfl ?_
  refine g_iconst C dL_law_1432 ?_
  refine g_iadd C dL_law_1433 ?_
  refine g_sld (5 * t + 1) C hS (by omega) (by omega) dL_law_1434 ?_
  refine g_aload_n C dL_law_1435 rfl ?_
  refine g_iload C dL_law_1436 rfl ?_
  refine g_iconst C dL_law_1438 ?_
  refine g_iadd C dL_law_1439 ?_
  refine g_sld (5 * t + 2) C hS (by omega) (by omega) dL_law_1440 ?_
  refine g_callV C (c_X8_pairCopy _ (hf (5 * t + 1)) (hf (5 * t + 2)) hM1 hg.2.2.1) (ci := 10) rfl hM1.o rfl ml_RL_266 im_yX8_pairCopy se_RX8_yX8_pairCopy in_RX8 co_yX8_pairCopy hd_X8_pairCopy rfl ⟨by omega, by omega⟩ rfl (Nat.le_of_ble_eq_true rfl) ⟨by omega, by omega⟩ dL_law_1441 (fun v1441 w1441 hp1441 => ?_)
  refine g_wf (fun hwf2 => ?_)
  obtain ⟨τ2, A2, t2, pm2, le2, ri2, cm2, ans, hτ2, hv2, hM2, hk2, hcs⟩ := hp1441
  subst hv2
  obtain ⟨hg2, hr2, hkk, hans⟩ := b_pairCopy hg hr hD hcs
  have hI2 := inv_md hwf1 hwf2 hC1 rfl ho hOV.u hk2 hτ2 hM2 hg2 (rl_pb hp2 hr2)
  refine g_istore C dL_law_1444 (by decide) rfl ?_
  refine g_goto (tgt := 2213) C dL_law_1446 (by decide) ?_
  exact g_drop 5 (g_drop 6 (g_widen (by omega) (by omega) (kk _ hI2)))
set_option maxHeartbeats 4000000 in
set_option maxRecDepth 100000 in
theorem lc_pairBase {K : KC} {E : GE} {X : XT} {b N : Nat} {f : Nat → Int} {x m o t k n : Nat} {w : Wd} (LX : LawX K E X b N f) (ht : 5 * t + 5 ≤ N) (hI : INV x m o t w) (hk : k + 2000 ≤ 929463) (hn : n + 80000 ≤ 6313092) (kk : ∀ w', INV x m o (t + 1) w' → G E X 7 2213 (LL b x m o t) [] w' (k + 2000) (n + 80000)) : G E X 7 1449 (LL b x m o t) [] w k n := by
  obtain ⟨C, hT, hH, hls, ⟨hRf, hRl, hRc, hRs⟩, hS⟩ := LX
  have hf := hS.2.2.2.1
  have hN := hS.2.2.2.2
  obtain ⟨τ, ad, bs, ss, pb, P, Q, ct, A, th, ba, st, pm, le, ri, sp, cm, hC, hM, hx, ho, ⟨n0, s0, hO0⟩, hg, hr⟩ := hI
  subst hx
  refine g_wf (fun hwf => ?_)
  refine g_aload_n C dL_law_1449 rfl ?_
  refine g_aload_n C dL_law_1450 rfl ?_
  refine g_iload C dL_law_1451 rfl ?_
  refine g_iconst C dL_law_1453 ?_
  refine g_iadd C dL_law_1454 ?_
  refine g_sld (5 * t + 1) C hS (by omega) (by omega) dL_law_1455 ?_
  refine g_aload_n C dL_law_1456 rfl ?_
  refine x_callH C hT hH (w_L_pairBase _ hls hC ho hO0 (hf (5 * t + 1))) ml_RL_267 sm_yL_pairBase in_RL co_yL_pairBase hd_L_pairBase rfl ⟨by omega, by omega⟩ rfl (Nat.le_of_ble_eq_true rfl) ⟨by omega, by omega⟩ dL_law_1457 (fun v1 w1 hp => ?_)
  refine g_wf (fun hwf1 => ?_)
  obtain ⟨⟨k1, hv1, hk1⟩, hcalm⟩ := a_pairBase hC ho ⟨n0, s0, hO0⟩ hp
  subst hv1
  have hkm : KM τ w w1 := by
    obtain ⟨_, _, _, _, _, _, q, _⟩ := hcalm
    exact q
  have hM1 := hM.keep hkm.2
  refine g_istore C dL_law_1460 (by decide) rfl ?_
  refine g_aload_n C dL_law_1462 rfl ?_
  refine g_aload_n C dL_law_1463 rfl ?_
  refine g_iload C dL_law_1464 rfl ?_
  refine g_iconst C dL_law_1466 ?_
  refine g_iadd C dL_law_1467 ?_
  refine g_sld (5 * t + 1) C hS (by omega) (by omega) dL_law_1468 ?_
  refine g_callV C (c_X8_pairBase _ (hf (5 * t + 1)) hM1) (ci := 10) rfl hM1.o rfl ml_RL_269 im_yX8_pairBase se_RX8_yX8_pairBase in_RX8 co_yX8_pairBase hd_X8_pairBase rfl ⟨by omega, by omega⟩ rfl (Nat.le_of_ble_eq_true rfl) ⟨by omega, by omega⟩ dL_law_1469 (fun v1469 w1469 hp1469 => ?_)
  refine g_wf (fun hwf2 => ?_)
  obtain ⟨t2, ans, hv2, hM2, hk2, hcs⟩ := hp1469
  subst hv2
  have h02 : 0 ≤ t2 ∧ t2 ≤ 2 := by omega
  have hI2 := inv_ask hwf1 hwf2 hcalm rfl ho hk2 hM2 h02 hg hr
  refine g_istore C dL_law_1472 (by decide) rfl ?_
  refine g_goto (tgt := 2213) C dL_law_1474 (by decide) ?_
  exact g_drop 5 (g_drop 6 (g_widen (by omega) (by omega) (kk _ hI2)))
set_option maxHeartbeats 4000000 in
set_option maxRecDepth 100000 in
theorem lc_pairText {K : KC} {E : GE} {X : XT} {b N : Nat} {f : Nat → Int} {x m o t k n : Nat} {w : Wd} (LX : LawX K E X b N f) (ht : 5 * t + 5 ≤ N) (hI : INV x m o t w) (hk : k + 2000 ≤ 929463) (hn : n + 80000 ≤ 6313092) (kk : ∀ w', INV x m o (t + 1) w' → G E X 7 2213 (LL b x m o t) [] w' (k + 2000) (n + 80000)) : G E X 7 1477 (LL b x m o t) [] w k n := by
  obtain ⟨C, hT, hH, hls, ⟨hRf, hRl, hRc, hRs⟩, hS⟩ := LX
  have hf := hS.2.2.2.1
  have hN := hS.2.2.2.2
  obtain ⟨τ, ad, bs, ss, pb, P, Q, ct, A, th, ba, st, pm, le, ri, sp, cm, hC, hM, hx, ho, ⟨n0, s0, hO0⟩, hg, hr⟩ := hI
  subst hx
  refine g_wf (fun hwf => ?_)
  refine g_aload_n C dL_law_1477 rfl ?_
  refine g_aload_n C dL_law_1478 rfl ?_
  refine g_iload C dL_law_1479 rfl ?_
  refine g_iconst C dL_law_1481 ?_
  refine g_iadd C dL_law_1482 ?_
  refine g_sld (5 * t + 1) C hS (by omega) (by omega) dL_law_1483 ?_
  refine g_aload_n C dL_law_1484 rfl ?_
  refine g_iload C dL_law_1485 rfl ?_
  refine g_iconst C dL_law_1487 ?_
  refine g_iadd C dL_law_1488 ?_
  refine g_sld (5 * t + 2) C hS (by omega) (by omega) dL_law_1489 ?_
  refine g_bool C (hf _) dL_law_1490 dL_law_1493 dL_law_1494 dL_law_1497 ?_
  refine g_aload_n C dL_law_1498 rfl ?_
  refine x_callH C hT hH (w_L_pairText _ hls hC ho hO0 (hf (5 * t + 1)) (bI_01 _)) ml_RL_270 sm_yL_pairText in_RL co_yL_pairText hd_L_pairText rfl ⟨by omega, by omega⟩ rfl (Nat.le_of_ble_eq_true rfl) ⟨by omega, by omega⟩ dL_law_1499 (fun v1 w1 hp => ?_)
  refine g_wf (fun hwf1 => ?_)
  obtain ⟨⟨k1, hv1, hk1⟩, hcalm⟩ := a_pairText hC ho ⟨n0, s0, hO0⟩ (y := bI (f (5 * t + 2) ≠ 0)) hp
  subst hv1
  have hkm : KM τ w w1 := by
    obtain ⟨_, _, _, _, _, _, q, _⟩ := hcalm
    exact q
  have hM1 := hM.keep hkm.2
  refine g_istore C dL_law_1502 (by decide) rfl ?_
  refine g_aload_n C dL_law_1504 rfl ?_
  refine g_aload_n C dL_law_1505 rfl ?_
  refine g_iload C dL_law_1506 rfl ?_
  refine g_iconst C dL_law_1508 ?_
  refine g_iadd C dL_law_1509 ?_
  refine g_sld (5 * t + 1) C hS (by omega) (by omega) dL_law_1510 ?_
  refine g_aload_n C dL_law_1511 rfl ?_
  refine g_iload C dL_law_1512 rfl ?_
  refine g_iconst C dL_law_1514 ?_
  refine g_iadd C dL_law_1515 ?_
  refine g_sld (5 * t + 2) C hS (by omega) (by omega) dL_law_1516 ?_
  refine g_bool C (hf _) dL_law_1517 dL_law_1520 dL_law_1521 dL_law_1524 ?_
  refine t_callV C hT (c_X8_pairText _ (hf (5 * t + 1)) (bI_01 _) hM1) (RcV.ob (ci := 10) C rfl hM1.o) rfl ml_RL_272 im_yX8_pairText se_RX8_yX8_pairText in_RX8 co_yX8_pairText hd_X8_pairText rfl ⟨by omega, by omega⟩ rfl (Nat.le_of_ble_eq_true rfl) ⟨by omega, by omega⟩ dL_law_1525 (fun v1525 w1525 hp1525 => ?_)
  refine g_wf (fun hwf2 => ?_)
  obtain ⟨t2, s2, hv2, hM2, hk2, h02⟩ := hp1525
  subst hv2
  have hI2 := inv_ask hwf1 hwf2 hcalm rfl ho hk2 hM2 h02 hg hr
  refine g_astore C dL_law_1528 (by decide) rfl ?_
  refine g_goto (tgt := 2213) C dL_law_1530 (by decide) ?_
  exact g_drop 5 (g_drop 6 (g_widen (by omega) (by omega) (kk _ hI2)))
set_option maxHeartbeats 4000000 in
set_option maxRecDepth 100000 in
theorem lc_pairNorm {K : KC} {E : GE} {X : XT} {b N : Nat} {f : Nat → Int} {x m o t k n : Nat} {w : Wd} (LX : LawX K E X b N f) (ht : 5 * t + 5 ≤ N) (hI : INV x m o t w) (hk : k + 2000 ≤ 929463) (hn : n + 80000 ≤ 6313092) (kk : ∀ w', INV x m o (t + 1) w' → G E X 7 2213 (LL b x m o t) [] w' (k + 2000) (n + 80000)) : G E X 7 1533 (LL b x m o t) [] w k n := by
  obtain ⟨C, hT, hH, hls, ⟨hRf, hRl, hRc, hRs⟩, hS⟩ := LX
  have hf := hS.2.2.2.1
  have hN := hS.2.2.2.2
  obtain ⟨τ, ad, bs, ss, pb, P, Q, ct, A, th, ba, st, pm, le, ri, sp, cm, hC, hM, hx, ho, ⟨n0, s0, hO0⟩, hg, hr⟩ := hI
  subst hx
  refine g_wf (fun hwf => ?_)
  refine g_aload_n C dL_law_1533 rfl ?_
  refine g_aload_n C dL_law_1534 rfl ?_
  refine g_iload C dL_law_1535 rfl ?_
  refine g_iconst C dL_law_1537 ?_
  refine g_iadd C dL_law_1538 ?_
  refine g_sld (5 * t + 1) C hS (by omega) (by omega) dL_law_1539 ?_
  refine g_aload_n C dL_law_1540 rfl ?_
  refine x_callH C hT hH (w_L_pairNorm _ hls hC ho hO0 (hf (5 * t + 1))) ml_RL_273 sm_yL_pairNorm in_RL co_yL_pairNorm hd_L_pairNorm rfl ⟨by omega, by omega⟩ rfl (Nat.le_of_ble_eq_true rfl) ⟨by omega, by omega⟩ dL_law_1541 (fun v1 w1 hp => ?_)
  refine g_wf (fun hwf1 => ?_)
  obtain ⟨⟨k1, hv1, hk1⟩, hcalm⟩ := a_pairNorm hC ho ⟨n0, s0, hO0⟩ hp
  subst hv1
  have hkm : KM τ w w1 := by
    obtain ⟨_, _, _, _, _, _, q, _⟩ := hcalm
    exact q
  have hM1 := hM.keep hkm.2
  refine g_istore C dL_law_1544 (by decide) rfl ?_
  refine g_aload_n C dL_law_1546 rfl ?_
  refine g_aload_n C dL_law_1547 rfl ?_
  refine g_iload C dL_law_1548 rfl ?_
  refine g_iconst C dL_law_1550 ?_
  refine g_iadd C dL_law_1551 ?_
  refine g_sld (5 * t + 1) C hS (by omega) (by omega) dL_law_1552 ?_
  refine t_callV C hT (c_X8_pairNorm _ (hf (5 * t + 1)) hM1 hg.2.2.1) (RcV.ob (ci := 10) C rfl hM1.o) rfl ml_RL_275 im_yX8_pairNorm se_RX8_yX8_pairNorm in_RX8 co_yX8_pairNorm hd_X8_pairNorm rfl ⟨by omega, by omega⟩ rfl (Nat.le_of_ble_eq_true rfl) ⟨by omega, by omega⟩ dL_law_1553 (fun v1553 w1553 hp1553 => ?_)
  refine g_wf (fun hwf2 => ?_)
  obtain ⟨t2, s2, hv2, hM2, hk2, h02⟩ := hp1553
  subst hv2
  have hI2 := inv_ask hwf1 hwf2 hcalm rfl ho hk2 hM2 h02 hg hr
  refine g_astore C dL_law_1556 (by decide) rfl ?_
  refine g_goto (tgt := 2213) C dL_law_1558 (by decide) ?_
  exact g_drop 5 (g_drop 6 (g_widen (by omega) (by omega) (kk _ hI2)))
set_option maxHeartbeats 4000000 in
set_option maxRecDepth 100000 in
theorem lc_pairBits {K : KC} {E : GE} {X : XT} {b N : Nat} {f : Nat → Int} {x m o t k n : Nat} {w : Wd} (LX : LawX K E X b N f) (ht : 5 * t + 5 ≤ N) (hI : INV x m o t w) (hk : k + 2000 ≤ 929463) (hn : n + 80000 ≤ 6313092) (kk : ∀ w', INV x m o (t + 1) w' → G E X 7 2213 (LL b x m o t) [] w' (k + 2000) (n + 80000)) : G E X 7 1561 (LL b x m o t) [] w k n := by
  obtain ⟨C, hT, hH, hls, ⟨hRf, hRl, hRc, hRs⟩, hS⟩ := LX
  have hf := hS.2.2.2.1
  have hN := hS.2.2.2.2
  obtain ⟨τ, ad, bs, ss, pb, P, Q, ct, A, th, ba, st, pm, le, ri, sp, cm, hC, hM, hx, ho, ⟨n0, s0, hO0⟩, hg, hr⟩ := hI
  subst hx
  refine g_wf (fun hwf => ?_)
  refine g_aload_n C dL_law_1561 rfl ?_
  refine g_aload_n C dL_law_1562 rfl ?_
  refine g_iload C dL_law_1563 rfl ?_
  refine g_iconst C dL_law_1565 ?_
  refine g_iadd C dL_law_1566 ?_
  refine g_sld (5 * t + 1) C hS (by omega) (by omega) dL_law_1567 ?_
  refine g_aload_n C dL_law_1568 rfl ?_
  refine g_iload C dL_law_1569 rfl ?_
  refine g_iconst C dL_law_1571 ?_
  refine g_iadd C dL_law_1572 ?_
  refine g_sld (5 * t + 2) C hS (by omega) (by omega) dL_law_1573 ?_
  refine g_bool C (hf _) dL_law_1574 dL_law_1577 dL_law_1578 dL_law_1581 ?_
  refine g_aload_n C dL_law_1582 rfl ?_
  refine g_iload C dL_law_1583 rfl ?_
  refine g_iconst C dL_law_1585 ?_
  refine g_iadd C dL_law_1586 ?_
  refine g_sld (5 * t + 3) C hS (by omega) (by omega) dL_law_1587 ?_
  refine g_aload_n C dL_law_1588 rfl ?_
  refine x_callH C hT hH (w_L_pairBits _ hls hC ho hO0 (hf (5 * t + 1)) (bI_01 _) (hf (5 * t + 3))) ml_RL_276 sm_yL_pairBits in_RL co_yL_pairBits hd_L_pairBits rfl ⟨by omega, by omega⟩ rfl (Nat.le_of_ble_eq_true rfl) ⟨by omega, by omega⟩ dL_law_1589 (fun v1 w1 hp => ?_)
  refine g_wf (fun hwf1 => ?_)
  obtain ⟨⟨k1, hv1, hk1⟩, hcalm⟩ := a_pairBits hC ho ⟨n0, s0, hO0⟩ (y := bI (f (5 * t + 2) ≠ 0)) hp
  subst hv1
  have hkm : KM τ w w1 := by
    obtain ⟨_, _, _, _, _, _, q, _⟩ := hcalm
    exact q
  have hM1 := hM.keep hkm.2
  refine g_istore C dL_law_1592 (by decide) rfl ?_
  refine g_aload_n C dL_law_1594 rfl ?_
  refine g_aload_n C dL_law_1595 rfl ?_
  refine g_iload C dL_law_1596 rfl ?_
  refine g_iconst C dL_law_1598 ?_
  refine g_iadd C dL_law_1599 ?_
  refine g_sld (5 * t + 1) C hS (by omega) (by omega) dL_law_1600 ?_
  refine g_aload_n C dL_law_1601 rfl ?_
  refine g_iload C dL_law_1602 rfl ?_
  refine g_iconst C dL_law_1604 ?_
  refine g_iadd C dL_law_1605 ?_
  refine g_sld (5 * t + 2) C hS (by omega) (by omega) dL_law_1606 ?_
  refine g_bool C (hf _) dL_law_1607 dL_law_1610 dL_law_1611 dL_law_1614 ?_
  refine g_aload_n C dL_law_1615 rfl ?_
  refine g_iload C dL_law_1616 rfl ?_
  refine g_iconst C dL_law_1618 ?_
  refine g_iadd C dL_law_1619 ?_
  refine g_sld (5 * t + 3) C hS (by omega) (by omega) dL_law_1620 ?_
  refine g_callV C (c_X8_pairBits _ (hf (5 * t + 1)) (hf (5 * t + 3)) (bI_01 _) hM1) (ci := 10) rfl hM1.o rfl ml_RL_278 im_yX8_pairBits se_RX8_yX8_pairBits in_RX8 co_yX8_pairBits hd_X8_pairBits rfl ⟨by omega, by omega⟩ rfl (Nat.le_of_ble_eq_true rfl) ⟨by omega, by omega⟩ dL_law_1621 (fun v1621 w1621 hp1621 => ?_)
  refine g_wf (fun hwf2 => ?_)
  obtain ⟨t2, ans, hv2, hM2, hk2, hcs⟩ := hp1621
  subst hv2
  have h02 : 0 ≤ t2 ∧ t2 ≤ 2 := by omega
  have hI2 := inv_ask hwf1 hwf2 hcalm rfl ho hk2 hM2 h02 hg hr
  refine g_istore C dL_law_1624 (by decide) rfl ?_
  refine g_goto (tgt := 2213) C dL_law_1626 (by decide) ?_
  exact g_drop 5 (g_drop 6 (g_widen (by omega) (by omega) (kk _ hI2)))
set_option maxHeartbeats 4000000 in
set_option maxRecDepth 100000 in
theorem lc_rank {K : KC} {E : GE} {X : XT} {b N : Nat} {f : Nat → Int} {x m o t k n : Nat} {w : Wd} (LX : LawX K E X b N f) (ht : 5 * t + 5 ≤ N) (hI : INV x m o t w) (hk : k + 2000 ≤ 929463) (hn : n + 80000 ≤ 6313092) (kk : ∀ w', INV x m o (t + 1) w' → G E X 7 2213 (LL b x m o t) [] w' (k + 2000) (n + 80000)) : G E X 7 1629 (LL b x m o t) [] w k n := by
  obtain ⟨C, hT, hH, hls, ⟨hRf, hRl, hRc, hRs⟩, hS⟩ := LX
  have hf := hS.2.2.2.1
  have hN := hS.2.2.2.2
  obtain ⟨τ, ad, bs, ss, pb, P, Q, ct, A, th, ba, st, pm, le, ri, sp, cm, hC, hM, hx, ho, ⟨n0, s0, hO0⟩, hg, hr⟩ := hI
  subst hx
  refine g_wf (fun hwf => ?_)
  refine g_aload_n C dL_law_1629 rfl ?_
  refine g_aload_n C dL_law_1630 rfl ?_
  refine g_iload C dL_law_1631 rfl ?_
  refine g_iconst C dL_law_1633 ?_
  refine g_iadd C dL_law_1634 ?_
  refine g_sld (5 * t + 1) C hS (by omega) (by omega) dL_law_1635 ?_
  refine g_aload_n C dL_law_1636 rfl ?_
  refine x_callH C hT hH (w_L_rank _ hls hC ho hO0 (hf (5 * t + 1))) ml_RL_279 sm_yL_rank in_RL co_yL_rank hd_L_rank rfl ⟨by omega, by omega⟩ rfl (Nat.le_of_ble_eq_true rfl) ⟨by omega, by omega⟩ dL_law_1637 (fun v1 w1 hp => ?_)
  refine g_wf (fun hwf1 => ?_)
  obtain ⟨⟨k1, hv1, hk1⟩, hcalm⟩ := a_rank hC ho ⟨n0, s0, hO0⟩ hp
  subst hv1
  have hkm : KM τ w w1 := by
    obtain ⟨_, _, _, _, _, _, q, _⟩ := hcalm
    exact q
  have hM1 := hM.keep hkm.2
  refine g_istore C dL_law_1640 (by decide) rfl ?_
  refine g_aload_n C dL_law_1642 rfl ?_
  refine g_aload_n C dL_law_1643 rfl ?_
  refine g_iload C dL_law_1644 rfl ?_
  refine g_iconst C dL_law_1646 ?_
  refine g_iadd C dL_law_1647 ?_
  refine g_sld (5 * t + 1) C hS (by omega) (by omega) dL_law_1648 ?_
  refine g_callV C (c_X8_rank _ (hf (5 * t + 1)) hM1 hg.2.2.1) (ci := 10) rfl hM1.o rfl ml_RL_281 im_yX8_rank se_RX8_yX8_rank in_RX8 co_yX8_rank hd_X8_rank rfl ⟨by omega, by omega⟩ rfl (Nat.le_of_ble_eq_true rfl) ⟨by omega, by omega⟩ dL_law_1649 (fun v1649 w1649 hp1649 => ?_)
  refine g_wf (fun hwf2 => ?_)
  obtain ⟨t2, ans, hv2, hM2, hk2, hcs⟩ := hp1649
  subst hv2
  have h02 : 0 ≤ t2 ∧ t2 ≤ 2 := by omega
  have hI2 := inv_ask hwf1 hwf2 hcalm rfl ho hk2 hM2 h02 hg hr
  refine g_istore C dL_law_1652 (by decide) rfl ?_
  refine g_goto (tgt := 2213) C dL_law_1654 (by decide) ?_
  exact g_drop 5 (g_drop 6 (g_widen (by omega) (by omega) (kk _ hI2)))
set_option maxHeartbeats 4000000 in
set_option maxRecDepth 100000 in
theorem lc_order {K : KC} {E : GE} {X : XT} {b N : Nat} {f : Nat → Int} {x m o t k n : Nat} {w : Wd} (LX : LawX K E X b N f) (ht : 5 * t + 5 ≤ N) (hI : INV x m o t w) (hk : k + 2000 ≤ 929463) (hn : n + 80000 ≤ 6313092) (kk : ∀ w', INV x m o (t + 1) w' → G E X 7 2213 (LL b x m o t) [] w' (k + 2000) (n + 80000)) : G E X 7 1657 (LL b x m o t) [] w k n := by
  obtain ⟨C, hT, hH, hls, ⟨hRf, hRl, hRc, hRs⟩, hS⟩ := LX
  have hf := hS.2.2.2.1
  have hN := hS.2.2.2.2
  obtain ⟨τ, ad, bs, ss, pb, P, Q, ct, A, th, ba, st, pm, le, ri, sp, cm, hC, hM, hx, ho, ⟨n0, s0, hO0⟩, hg, hr⟩ := hI
  subst hx
  refine g_wf (fun hwf => ?_)
  refine g_aload_n C dL_law_1657 rfl ?_
  refine g_aload_n C dL_law_1658 rfl ?_
  refine g_iload C dL_law_1659 rfl ?_
  refine g_iconst C dL_law_1661 ?_
  refine g_iadd C dL_law_1662 ?_
  refine g_sld (5 * t + 1) C hS (by omega) (by omega) dL_law_1663 ?_
  refine g_aload_n C dL_law_1664 rfl ?_
  refine g_iload C dL_law_1665 rfl ?_
  refine g_iconst C dL_law_1667 ?_
  refine g_iadd C dL_law_1668 ?_
  refine g_sld (5 * t + 2) C hS (by omega) (by omega) dL_law_1669 ?_
  refine g_aload_n C dL_law_1670 rfl ?_
  refine g_iload C dL_law_1671 rfl ?_
  refine g_iconst C dL_law_1673 ?_
  refine g_iadd C dL_law_1674 ?_
  refine g_sld (5 * t + 3) C hS (by omega) (by omega) dL_law_1675 ?_
  refine g_bool C (hf _) dL_law_1676 dL_law_1679 dL_law_1680 dL_law_1683 ?_
  refine g_aload_n C dL_law_1684 rfl ?_
  refine x_callH C hT hH (w_L_order _ hls hC ho hO0 (hf (5 * t + 1)) (hf (5 * t + 2)) (bI_01 _)) ml_RL_282 sm_yL_order in_RL co_yL_order hd_L_order rfl ⟨by omega, by omega⟩ rfl (Nat.le_of_ble_eq_true rfl) ⟨by omega, by omega⟩ dL_law_1685 (fun v1 w1 hp => ?_)
  refine g_wf (fun hwf1 => ?_)
  obtain ⟨⟨k1, hv1, hk1⟩, hcalm⟩ := a_order hC ho ⟨n0, s0, hO0⟩ (y := bI (f (5 * t + 3) ≠ 0)) hp
  subst hv1
  have hkm : KM τ w w1 := by
    obtain ⟨_, _, _, _, _, _, q, _⟩ := hcalm
    exact q
  have hM1 := hM.keep hkm.2
  refine g_istore C dL_law_1688 (by decide) rfl ?_
  refine g_aload_n C dL_law_1690 rfl ?_
  refine g_aload_n C dL_law_1691 rfl ?_
  refine g_iload C dL_law_1692 rfl ?_
  refine g_iconst C dL_law_1694 ?_
  refine g_iadd C dL_law_1695 ?_
  refine g_sld (5 * t + 1) C hS (by omega) (by omega) dL_law_1696 ?_
  refine g_aload_n C dL_law_1697 rfl ?_
  refine g_iload C dL_law_1698 rfl ?_
  refine g_iconst C dL_law_1700 ?_
  refine g_iadd C dL_law_1701 ?_
  refine g_sld (5 * t + 2) C hS (by omega) (by omega) dL_law_1702 ?_
  refine g_aload_n C dL_law_1703 rfl ?_
  refine g_iload C dL_law_1704 rfl ?_
  refine g_iconst C dL_law_1706 ?_
  refine g_iadd C dL_law_1707 ?_
  refine g_sld (5 * t + 3) C hS (by omega) (by omega) dL_law_1708 ?_
  refine g_bool C (hf _) dL_law_1709 dL_law_1712 dL_law_1713 dL_law_1716 ?_
  refine g_callV C (c_X8_order _ (hf (5 * t + 1)) (hf (5 * t + 2)) (bI_01 _) hM1) (ci := 10) rfl hM1.o rfl ml_RL_285 im_yX8_order se_RX8_yX8_order in_RX8 co_yX8_order hd_X8_order rfl ⟨by omega, by omega⟩ rfl (Nat.le_of_ble_eq_true rfl) ⟨by omega, by omega⟩ dL_law_1717 (fun v1717 w1717 hp1717 => ?_)
  refine g_wf (fun hwf2 => ?_)
  obtain ⟨t2, ans, hv2, hM2, hk2, hcs⟩ := hp1717
  subst hv2
  have h02 : 0 ≤ t2 ∧ t2 ≤ 2 := by omega
  have hI2 := inv_ask hwf1 hwf2 hcalm rfl ho hk2 hM2 h02 hg hr
  refine g_istore C dL_law_1720 (by decide) rfl ?_
  refine g_goto (tgt := 2213) C dL_law_1722 (by decide) ?_
  exact g_drop 5 (g_drop 6 (g_widen (by omega) (by omega) (kk _ hI2)))
set_option maxHeartbeats 4000000 in
set_option maxRecDepth 100000 in
theorem lc_isSame {K : KC} {E : GE} {X : XT} {b N : Nat} {f : Nat → Int} {x m o t k n : Nat} {w : Wd} (LX : LawX K E X b N f) (ht : 5 * t + 5 ≤ N) (hI : INV x m o t w) (hk : k + 2000 ≤ 929463) (hn : n + 80000 ≤ 6313092) (kk : ∀ w', INV x m o (t + 1) w' → G E X 7 2213 (LL b x m o t) [] w' (k + 2000) (n + 80000)) : G E X 7 1725 (LL b x m o t) [] w k n := by
  obtain ⟨C, hT, hH, hls, ⟨hRf, hRl, hRc, hRs⟩, hS⟩ := LX
  have hf := hS.2.2.2.1
  have hN := hS.2.2.2.2
  obtain ⟨τ, ad, bs, ss, pb, P, Q, ct, A, th, ba, st, pm, le, ri, sp, cm, hC, hM, hx, ho, ⟨n0, s0, hO0⟩, hg, hr⟩ := hI
  subst hx
  refine g_wf (fun hwf => ?_)
  refine g_aload_n C dL_law_1725 rfl ?_
  refine g_aload_n C dL_law_1726 rfl ?_
  refine g_iload C dL_law_1727 rfl ?_
  refine g_iconst C dL_law_1729 ?_
  refine g_iadd C dL_law_1730 ?_
  refine g_sld (5 * t + 1) C hS (by omega) (by omega) dL_law_1731 ?_
  refine g_aload_n C dL_law_1732 rfl ?_
  refine g_iload C dL_law_1733 rfl ?_
  refine g_iconst C dL_law_1735 ?_
  refine g_iadd C dL_law_1736 ?_
  refine g_sld (5 * t + 2) C hS (by omega) (by omega) dL_law_1737 ?_
  refine g_aload_n C dL_law_1738 rfl ?_
  refine x_callH C hT hH (w_L_isSame _ hls hC ho hO0 (hf (5 * t + 1)) (hf (5 * t + 2))) ml_RL_286 sm_yL_isSame in_RL co_yL_isSame hd_L_isSame rfl ⟨by omega, by omega⟩ rfl (Nat.le_of_ble_eq_true rfl) ⟨by omega, by omega⟩ dL_law_1739 (fun v1 w1 hp => ?_)
  refine g_wf (fun hwf1 => ?_)
  obtain ⟨⟨k1, hv1, hk1⟩, hcalm⟩ := a_isSame hC ho ⟨n0, s0, hO0⟩ hp
  subst hv1
  have hkm : KM τ w w1 := by
    obtain ⟨_, _, _, _, _, _, q, _⟩ := hcalm
    exact q
  have hM1 := hM.keep hkm.2
  refine g_istore C dL_law_1742 (by decide) rfl ?_
  refine g_aload_n C dL_law_1744 rfl ?_
  refine g_aload_n C dL_law_1745 rfl ?_
  refine g_iload C dL_law_1746 rfl ?_
  refine g_iconst C dL_law_1748 ?_
  refine g_iadd C dL_law_1749 ?_
  refine g_sld (5 * t + 1) C hS (by omega) (by omega) dL_law_1750 ?_
  refine g_aload_n C dL_law_1751 rfl ?_
  refine g_iload C dL_law_1752 rfl ?_
  refine g_iconst C dL_law_1754 ?_
  refine g_iadd C dL_law_1755 ?_
  refine g_sld (5 * t + 2) C hS (by omega) (by omega) dL_law_1756 ?_
  refine g_callV C (c_X8_isSame _ (hf (5 * t + 1)) (hf (5 * t + 2)) hM1 hg.2.2.1) (ci := 10) rfl hM1.o rfl ml_RL_288 im_yX8_isSame se_RX8_yX8_isSame in_RX8 co_yX8_isSame hd_X8_isSame rfl ⟨by omega, by omega⟩ rfl (Nat.le_of_ble_eq_true rfl) ⟨by omega, by omega⟩ dL_law_1757 (fun v1757 w1757 hp1757 => ?_)
  refine g_wf (fun hwf2 => ?_)
  obtain ⟨t2, ans, hv2, hM2, hk2, hcs⟩ := hp1757
  subst hv2
  have h02 : 0 ≤ t2 ∧ t2 ≤ 2 := by omega
  have hI2 := inv_ask hwf1 hwf2 hcalm rfl ho hk2 hM2 h02 hg hr
  refine g_istore C dL_law_1760 (by decide) rfl ?_
  refine g_goto (tgt := 2213) C dL_law_1762 (by decide) ?_
  exact g_drop 5 (g_drop 6 (g_widen (by omega) (by omega) (kk _ hI2)))
set_option maxHeartbeats 4000000 in
set_option maxRecDepth 100000 in
theorem lc_extreme {K : KC} {E : GE} {X : XT} {b N : Nat} {f : Nat → Int} {x m o t k n : Nat} {w : Wd} (LX : LawX K E X b N f) (ht : 5 * t + 5 ≤ N) (hI : INV x m o t w) (hk : k + 2000 ≤ 929463) (hn : n + 80000 ≤ 6313092) (kk : ∀ w', INV x m o (t + 1) w' → G E X 7 2213 (LL b x m o t) [] w' (k + 2000) (n + 80000)) : G E X 7 1765 (LL b x m o t) [] w k n := by
  obtain ⟨C, hT, hH, hls, ⟨hRf, hRl, hRc, hRs⟩, hS⟩ := LX
  have hf := hS.2.2.2.1
  have hN := hS.2.2.2.2
  obtain ⟨τ, ad, bs, ss, pb, P, Q, ct, A, th, ba, st, pm, le, ri, sp, cm, hC, hM, hx, ho, ⟨n0, s0, hO0⟩, hg, hr⟩ := hI
  subst hx
  refine g_wf (fun hwf => ?_)
  refine g_aload_n C dL_law_1765 rfl ?_
  refine g_aload_n C dL_law_1766 rfl ?_
  refine g_iload C dL_law_1767 rfl ?_
  refine g_iconst C dL_law_1769 ?_
  refine g_iadd C dL_law_1770 ?_
  refine g_sld (5 * t + 1) C hS (by omega) (by omega) dL_law_1771 ?_
  refine g_bool C (hf _) dL_law_1772 dL_law_1775 dL_law_1776 dL_law_1779 ?_
  refine g_aload_n C dL_law_1780 rfl ?_
  refine g_iload C dL_law_1781 rfl ?_
  refine g_iconst C dL_law_1783 ?_
  refine g_iadd C dL_law_1784 ?_
  refine g_sld (5 * t + 2) C hS (by omega) (by omega) dL_law_1785 ?_
  refine g_bool C (hf _) dL_law_1786 dL_law_1789 dL_law_1790 dL_law_1793 ?_
  refine t_callV C hT (s_X6_extreme _ hC (bI_01 _) (bI_01 _)) (RcV.ob (ci := 8) C rfl hC.o) rfl ml_RL_289 im_yX6_extreme se_RX6_yX6_extreme in_RX6 co_yX6_extreme hd_X6_extreme rfl ⟨by omega, by omega⟩ rfl (Nat.le_of_ble_eq_true rfl) ⟨by omega, by omega⟩ dL_law_1794 (fun v1794 w1794 hp1794 => ?_)
  refine g_wf (fun hwf1 => ?_)
  obtain ⟨⟨s1, hv1⟩, hC1, hko⟩ := hp1794
  subst hv1
  have hkm := hko.km
  have hM1 := hM.keep hkm.2
  have hOU : OU w1794 o := ⟨n0, s0, hko.2 o _ (Or.inr ho) hO0⟩
  have hcalm : CALM τ ad o w w1794 bs ss pb P Q ct := ⟨_, _, _, hC1, fun _ _ => ⟨rfl, rfl⟩, fun _ _ => rfl, hkm, hOU⟩
  refine g_pop C dL_law_1797 rfl ?_
  refine g_aload_n C dL_law_1798 rfl ?_
  refine g_aload_n C dL_law_1799 rfl ?_
  refine g_iload C dL_law_1800 rfl ?_
  refine g_iconst C dL_law_1802 ?_
  refine g_iadd C dL_law_1803 ?_
  refine g_sld (5 * t + 1) C hS (by omega) (by omega) dL_law_1804 ?_
  refine g_bool C (hf _) dL_law_1805 dL_law_1808 dL_law_1809 dL_law_1812 ?_
  refine g_aload_n C dL_law_1813 rfl ?_
  refine g_iload C dL_law_1814 rfl ?_
  refine g_iconst C dL_law_1816 ?_
  refine g_iadd C dL_law_1817 ?_
  refine g_sld (5 * t + 2) C hS (by omega) (by omega) dL_law_1818 ?_
  refine g_bool C (hf _) dL_law_1819 dL_law_1822 dL_law_1823 dL_law_1826 ?_
  refine t_callV C hT (c_X8_extreme _ (bI_01 _) (bI_01 _) hM1) (RcV.ob (ci := 10) C rfl hM1.o) rfl ml_RL_293 im_yX8_extreme se_RX8_yX8_extreme in_RX8 co_yX8_extreme hd_X8_extreme rfl ⟨by omega, by omega⟩ rfl (Nat.le_of_ble_eq_true rfl) ⟨by omega, by omega⟩ dL_law_1827 (fun v1827 w1827 hp1827 => ?_)
  refine g_wf (fun hwf2 => ?_)
  obtain ⟨t2, s2, hv2, hM2, hk2, h02⟩ := hp1827
  subst hv2
  have hI2 := inv_ask hwf1 hwf2 hcalm rfl ho hk2 hM2 h02 hg hr
  refine g_pop C dL_law_1830 rfl ?_
  refine g_goto (tgt := 2213) C dL_law_1831 (by decide) ?_
  exact g_drop 5 (g_drop 6 (g_widen (by omega) (by omega) (kk _ hI2)))
set_option maxHeartbeats 4000000 in
set_option maxRecDepth 100000 in
theorem lc_split {K : KC} {E : GE} {X : XT} {b N : Nat} {f : Nat → Int} {x m o t k n : Nat} {w : Wd} (LX : LawX K E X b N f) (ht : 5 * t + 5 ≤ N) (hI : INV x m o t w) (hk : k + 2000 ≤ 929463) (hn : n + 80000 ≤ 6313092) (kk : ∀ w', INV x m o (t + 1) w' → G E X 7 2213 (LL b x m o t) [] w' (k + 2000) (n + 80000)) : G E X 7 1834 (LL b x m o t) [] w k n := by
  obtain ⟨C, hT, hH, hls, ⟨hRf, hRl, hRc, hRs⟩, hS⟩ := LX
  have hf := hS.2.2.2.1
  have hN := hS.2.2.2.2
  obtain ⟨τ, ad, bs, ss, pb, P, Q, ct, A, th, ba, st, pm, le, ri, sp, cm, hC, hM, hx, ho, ⟨n0, s0, hO0⟩, hg, hr⟩ := hI
  subst hx
  refine g_wf (fun hwf => ?_)
  refine g_aload_n C dL_law_1834 rfl ?_
  refine g_aload_n C dL_law_1835 rfl ?_
  refine g_iload C dL_law_1836 rfl ?_
  refine g_iconst C dL_law_1838 ?_
  refine g_iadd C dL_law_1839 ?_
  refine g_sld (5 * t + 1) C hS (by omega) (by omega) dL_law_1840 ?_
  refine g_aload_n C dL_law_1841 rfl ?_
  refine g_iload C dL_law_1842 rfl ?_
  refine g_iconst C dL_law_1844 ?_
  refine g_iadd C dL_law_1845 ?_
  refine g_sld (5 * t + 2) C hS (by omega) (by omega) dL_law_1846 ?_
  refine g_aload_n C dL_law_1847 rfl ?_
  refine x_callH C hT hH (w_L_split _ hls hC ho hO0 (hf (5 * t + 1)) (hf (5 * t + 2))) ml_RL_294 sm_yL_split in_RL co_yL_split hd_L_split rfl ⟨by omega, by omega⟩ rfl (Nat.le_of_ble_eq_true rfl) ⟨by omega, by omega⟩ dL_law_1848 (fun v1 w1 hp => ?_)
  refine g_wf (fun hwf1 => ?_)
  obtain ⟨k1, nv, P1, Q1, ct1, hv1, hOV, hnv, ⟨⟨pb2, hp2, hC1⟩, hkm⟩, hD⟩ := a_split hC ho ⟨n0, s0, hO0⟩ hp
  subst hv1
  have hM1 := hM.keep hkm.2
  refine g_istore C dL_law_1851 (by decide) rfl ?_
  refine g_aload_n C dL_law_1853 rfl ?_
  refine g_aload_n C dL_law_1854 rfl ?_
  refine g_iload C dL_law_1855 rfl ?_
  refine g_iconst C dL_law_1857 ?_
  refine g_iadd C dL_law_1858 ?_
  refine g_sld (5 * t + 1) C hS (by omega) (by omega) dL_law_1859 ?_
  refine g_aload_n C dL_law_1860 rfl ?_
  refine g_iload C dL_law_1861 rfl ?_
  refine g_iconst C dL_law_1863 ?_
  refine g_iadd C dL_law_1864 ?_
  refine g_sld (5 * t + 2) C hS (by omega) (by omega) dL_law_1865 ?_
  refine g_callV C (c_X8_split _ (hf (5 * t + 1)) (hf (5 * t + 2)) hM1 hg.2.2.2.1) (ci := 10) rfl hM1.o rfl ml_RL_296 im_yX8_split se_RX8_yX8_split in_RX8 co_yX8_split hd_X8_split rfl ⟨by omega, by omega⟩ rfl (Nat.le_of_ble_eq_true rfl) ⟨by omega, by omega⟩ dL_law_1866 (fun v1866 w1866 hp1866 => ?_)
  refine g_wf (fun hwf2 => ?_)
  obtain ⟨τ2, A2, t2, sp2, cm2, ans, hτ2, hv2, hM2, hk2, hcs⟩ := hp1866
  subst hv2
  obtain ⟨hg2, hr2, hkk, hans⟩ := b_split hg hr hD hcs
  have hI2 := inv_md hwf1 hwf2 hC1 rfl ho hOV.u hk2 hτ2 hM2 hg2 (rl_pb hp2 hr2)
  refine g_istore C dL_law_1869 (by decide) rfl ?_
  refine g_goto (tgt := 2213) C dL_law_1871 (by decide) ?_
  exact g_drop 5 (g_drop 6 (g_widen (by omega) (by omega) (kk _ hI2)))
set_option maxHeartbeats 4000000 in
set_option maxRecDepth 100000 in
theorem lc_euclid {K : KC} {E : GE} {X : XT} {b N : Nat} {f : Nat → Int} {x m o t k n : Nat} {w : Wd} (LX : LawX K E X b N f) (ht : 5 * t + 5 ≤ N) (hI : INV x m o t w) (hk : k + 2000 ≤ 929463) (hn : n + 80000 ≤ 6313092) (kk : ∀ w', INV x m o (t + 1) w' → G E X 7 2213 (LL b x m o t) [] w' (k + 2000) (n + 80000)) : G E X 7 1874 (LL b x m o t) [] w k n := by
  obtain ⟨C, hT, hH, hls, ⟨hRf, hRl, hRc, hRs⟩, hS⟩ := LX
  have hf := hS.2.2.2.1
  have hN := hS.2.2.2.2
  obtain ⟨τ, ad, bs, ss, pb, P, Q, ct, A, th, ba, st, pm, le, ri, sp, cm, hC, hM, hx, ho, ⟨n0, s0, hO0⟩, hg, hr⟩ := hI
  subst hx
  refine g_wf (fun hwf => ?_)
  refine g_aload_n C dL_law_1874 rfl ?_
  refine g_aload_n C dL_law_1875 rfl ?_
  refine g_iload C dL_law_1876 rfl ?_
  refine g_iconst C dL_law_1878 ?_
  refine g_iadd C dL_law_1879 ?_
  refine g_sld (5 * t + 1) C hS (by omega) (by omega) dL_law_1880 ?_
  refine g_aload_n C dL_law_1881 rfl ?_
  refine x_callH C hT hH (w_L_euclid _ hls hC ho hO0 (hf (5 * t + 1))) ml_RL_297 sm_yL_euclid in_RL co_yL_euclid hd_L_euclid rfl ⟨by omega, by omega⟩ rfl (Nat.le_of_ble_eq_true rfl) ⟨by omega, by omega⟩ dL_law_1882 (fun v1 w1 hp => ?_)
  refine g_wf (fun hwf1 => ?_)
  obtain ⟨k1, nv, Q1, ct1, hv1, hOV, hnv, ⟨⟨pb2, hp2, hC1⟩, hkm⟩, hD⟩ := a_euclid hC ho ⟨n0, s0, hO0⟩ hp
  subst hv1
  have hM1 := hM.keep hkm.2
  refine g_istore C dL_law_1885 (by decide) rfl ?_
  refine g_aload_n C dL_law_1887 rfl ?_
  refine g_aload_n C dL_law_1888 rfl ?_
  refine g_iload C dL_law_1889 rfl ?_
  refine g_iconst C dL_law_1891 ?_
  refine g_iadd C dL_law_1892 ?_
  refine g_sld (5 * t + 1) C hS (by omega) (by omega) dL_law_1893 ?_
  refine g_callV C (c_X8_euclid _ (hf (5 * t + 1)) hM1 hg.2.2.2.1) (ci := 10) rfl hM1.o rfl ml_RL_299 im_yX8_euclid se_RX8_yX8_euclid in_RX8 co_yX8_euclid hd_X8_euclid rfl ⟨by omega, by omega⟩ rfl (Nat.le_of_ble_eq_true rfl) ⟨by omega, by omega⟩ dL_law_1894 (fun v1894 w1894 hp1894 => ?_)
  refine g_wf (fun hwf2 => ?_)
  obtain ⟨t2, sp2, cm2, ans, hv2, hM2, hk2, hcs⟩ := hp1894
  subst hv2
  obtain ⟨hg2, hr2, hkk, hans⟩ := b_euclid hg hr hD hcs
  have hI2 := inv_md hwf1 hwf2 hC1 rfl ho hOV.u hk2 (fun _ _ => rfl) hM2 hg2 (rl_pb hp2 hr2)
  refine g_istore C dL_law_1897 (by decide) rfl ?_
  refine g_goto (tgt := 2213) C dL_law_1899 (by decide) ?_
  exact g_drop 5 (g_drop 6 (g_widen (by omega) (by omega) (kk _ hI2)))
set_option maxHeartbeats 4000000 in
set_option maxRecDepth 100000 in
theorem lc_settle {K : KC} {E : GE} {X : XT} {b N : Nat} {f : Nat → Int} {x m o t k n : Nat} {w : Wd} (LX : LawX K E X b N f) (ht : 5 * t + 5 ≤ N) (hI : INV x m o t w) (hk : k + 2000 ≤ 929463) (hn : n + 80000 ≤ 6313092) (kk : ∀ w', INV x m o (t + 1) w' → G E X 7 2213 (LL b x m o t) [] w' (k + 2000) (n + 80000)) : G E X 7 1902 (LL b x m o t) [] w k n := by
  obtain ⟨C, hT, hH, hls, ⟨hRf, hRl, hRc, hRs⟩, hS⟩ := LX
  have hf := hS.2.2.2.1
  have hN := hS.2.2.2.2
  obtain ⟨τ, ad, bs, ss, pb, P, Q, ct, A, th, ba, st, pm, le, ri, sp, cm, hC, hM, hx, ho, ⟨n0, s0, hO0⟩, hg, hr⟩ := hI
  subst hx
  refine g_wf (fun hwf => ?_)
  refine g_aload_n C dL_law_1902 rfl ?_
  refine g_aload_n C dL_law_1903 rfl ?_
  refine g_iload C dL_law_1904 rfl ?_
  refine g_iconst C dL_law_1906 ?_
  refine g_iadd C dL_law_1907 ?_
  refine g_sld (5 * t + 1) C hS (by omega) (by omega) dL_law_1908 ?_
  refine g_aload_n C dL_law_1909 rfl ?_
  refine x_callH C hT hH (w_L_settle _ hls hC ho hO0 (hf (5 * t + 1))) ml_RL_300 sm_yL_settle in_RL co_yL_settle hd_L_settle rfl ⟨by omega, by omega⟩ rfl (Nat.le_of_ble_eq_true rfl) ⟨by omega, by omega⟩ dL_law_1910 (fun v1 w1 hp => ?_)
  refine g_wf (fun hwf1 => ?_)
  obtain ⟨k1, nv, Q1, ct1, hv1, hOV, hnv, ⟨⟨pb2, hp2, hC1⟩, hkm⟩, hD⟩ := a_settle hC ho ⟨n0, s0, hO0⟩ hp
  subst hv1
  have hM1 := hM.keep hkm.2
  refine g_istore C dL_law_1913 (by decide) rfl ?_
  refine g_aload_n C dL_law_1915 rfl ?_
  refine g_aload_n C dL_law_1916 rfl ?_
  refine g_iload C dL_law_1917 rfl ?_
  refine g_iconst C dL_law_1919 ?_
  refine g_iadd C dL_law_1920 ?_
  refine g_sld (5 * t + 1) C hS (by omega) (by omega) dL_law_1921 ?_
  refine g_callV C (c_X8_settle _ (hf (5 * t + 1)) hM1 hg.2.2.2.1) (ci := 10) rfl hM1.o rfl ml_RL_302 im_yX8_settle se_RX8_yX8_settle in_RX8 co_yX8_settle hd_X8_settle rfl ⟨by omega, by omega⟩ rfl (Nat.le_of_ble_eq_true rfl) ⟨by omega, by omega⟩ dL_law_1922 (fun v1922 w1922 hp1922 => ?_)
  refine g_wf (fun hwf2 => ?_)
  obtain ⟨t2, sp2, cm2, ans, hv2, hM2, hk2, hcs⟩ := hp1922
  subst hv2
  obtain ⟨hg2, hr2, hkk, hans⟩ := b_settle hg hr hD hcs
  have hI2 := inv_md hwf1 hwf2 hC1 rfl ho hOV.u hk2 (fun _ _ => rfl) hM2 hg2 (rl_pb hp2 hr2)
  refine g_istore C dL_law_1925 (by decide) rfl ?_
  refine g_goto (tgt := 2213) C dL_law_1927 (by decide) ?_
  exact g_drop 5 (g_drop 6 (g_widen (by omega) (by omega) (kk _ hI2)))
set_option maxHeartbeats 4000000 in
set_option maxRecDepth 100000 in
theorem lc_splitNumber {K : KC} {E : GE} {X : XT} {b N : Nat} {f : Nat → Int} {x m o t k n : Nat} {w : Wd} (LX : LawX K E X b N f) (ht : 5 * t + 5 ≤ N) (hI : INV x m o t w) (hk : k + 2000 ≤ 929463) (hn : n + 80000 ≤ 6313092) (kk : ∀ w', INV x m o (t + 1) w' → G E X 7 2213 (LL b x m o t) [] w' (k + 2000) (n + 80000)) : G E X 7 1930 (LL b x m o t) [] w k n := by
  obtain ⟨C, hT, hH, hls, ⟨hRf, hRl, hRc, hRs⟩, hS⟩ := LX
  have hf := hS.2.2.2.1
  have hN := hS.2.2.2.2
  obtain ⟨τ, ad, bs, ss, pb, P, Q, ct, A, th, ba, st, pm, le, ri, sp, cm, hC, hM, hx, ho, ⟨n0, s0, hO0⟩, hg, hr⟩ := hI
  subst hx
  refine g_wf (fun hwf => ?_)
  refine g_aload_n C dL_law_1930 rfl ?_
  refine g_aload_n C dL_law_1931 rfl ?_
  refine g_iload C dL_law_1932 rfl ?_
  refine g_iconst C dL_law_1934 ?_
  refine g_iadd C dL_law_1935 ?_
  refine g_sld (5 * t + 1) C hS (by omega) (by omega) dL_law_1936 ?_
  refine g_aload_n C dL_law_1937 rfl ?_
  refine g_iload C dL_law_1938 rfl ?_
  refine g_iconst C dL_law_1940 ?_
  refine g_iadd C dL_law_1941 ?_
  refine g_sld (5 * t + 2) C hS (by omega) (by omega) dL_law_1942 ?_
  refine g_aload_n C dL_law_1943 rfl ?_
  refine x_callH C hT hH (w_L_splitNumber _ hls hC ho hO0 (hf (5 * t + 1)) (hf (5 * t + 2))) ml_RL_303 sm_yL_splitNumber in_RL co_yL_splitNumber hd_L_splitNumber rfl ⟨by omega, by omega⟩ rfl (Nat.le_of_ble_eq_true rfl) ⟨by omega, by omega⟩ dL_law_1944 (fun v1 w1 hp => ?_)
  refine g_wf (fun hwf1 => ?_)
  obtain ⟨⟨k1, hv1, hk1⟩, hcalm⟩ := a_splitNumber hC ho ⟨n0, s0, hO0⟩ hp
  subst hv1
  have hkm : KM τ w w1 := by
    obtain ⟨_, _, _, _, _, _, q, _⟩ := hcalm
    exact q
  have hM1 := hM.keep hkm.2
  refine g_istore C dL_law_1947 (by decide) rfl ?_
  refine g_aload_n C dL_law_1949 rfl ?_
  refine g_aload_n C dL_law_1950 rfl ?_
  refine g_iload C dL_law_1951 rfl ?_
  refine g_iconst C dL_law_1953 ?_
  refine g_iadd C dL_law_1954 ?_
  refine g_sld (5 * t + 1) C hS (by omega) (by omega) dL_law_1955 ?_
  refine g_aload_n C dL_law_1956 rfl ?_
  refine g_iload C dL_law_1957 rfl ?_
  refine g_iconst C dL_law_1959 ?_
  refine g_iadd C dL_law_1960 ?_
  refine g_sld (5 * t + 2) C hS (by omega) (by omega) dL_law_1961 ?_
  refine g_callV C (c_X8_splitNumber _ (hf (5 * t + 1)) (hf (5 * t + 2)) hM1 hg.2.2.2.1) (ci := 10) rfl hM1.o rfl ml_RL_305 im_yX8_splitNumber se_RX8_yX8_splitNumber in_RX8 co_yX8_splitNumber hd_X8_splitNumber rfl ⟨by omega, by omega⟩ rfl (Nat.le_of_ble_eq_true rfl) ⟨by omega, by omega⟩ dL_law_1962 (fun v1962 w1962 hp1962 => ?_)
  refine g_wf (fun hwf2 => ?_)
  obtain ⟨t2, ans, hv2, hM2, hk2, hcs⟩ := hp1962
  subst hv2
  have h02 : 0 ≤ t2 ∧ t2 ≤ 2 := by omega
  have hI2 := inv_ask hwf1 hwf2 hcalm rfl ho hk2 hM2 h02 hg hr
  refine g_istore C dL_law_1965 (by decide) rfl ?_
  refine g_goto (tgt := 2213) C dL_law_1967 (by decide) ?_
  exact g_drop 5 (g_drop 6 (g_widen (by omega) (by omega) (kk _ hI2)))
set_option maxHeartbeats 4000000 in
set_option maxRecDepth 100000 in
theorem lc_way {K : KC} {E : GE} {X : XT} {b N : Nat} {f : Nat → Int} {x m o t k n : Nat} {w : Wd} (LX : LawX K E X b N f) (ht : 5 * t + 5 ≤ N) (hI : INV x m o t w) (hk : k + 2000 ≤ 929463) (hn : n + 80000 ≤ 6313092) (kk : ∀ w', INV x m o (t + 1) w' → G E X 7 2213 (LL b x m o t) [] w' (k + 2000) (n + 80000)) : G E X 7 1970 (LL b x m o t) [] w k n := by
  obtain ⟨C, hT, hH, hls, ⟨hRf, hRl, hRc, hRs⟩, hS⟩ := LX
  have hf := hS.2.2.2.1
  have hN := hS.2.2.2.2
  obtain ⟨τ, ad, bs, ss, pb, P, Q, ct, A, th, ba, st, pm, le, ri, sp, cm, hC, hM, hx, ho, ⟨n0, s0, hO0⟩, hg, hr⟩ := hI
  subst hx
  refine g_wf (fun hwf => ?_)
  refine g_aload_n C dL_law_1970 rfl ?_
  refine g_aload_n C dL_law_1971 rfl ?_
  refine g_iload C dL_law_1972 rfl ?_
  refine g_iconst C dL_law_1974 ?_
  refine g_iadd C dL_law_1975 ?_
  refine g_sld (5 * t + 1) C hS (by omega) (by omega) dL_law_1976 ?_
  refine g_aload_n C dL_law_1977 rfl ?_
  refine x_callH C hT hH (w_L_way _ hls hC ho hO0 (hf (5 * t + 1))) ml_RL_306 sm_yL_way in_RL co_yL_way hd_L_way rfl ⟨by omega, by omega⟩ rfl (Nat.le_of_ble_eq_true rfl) ⟨by omega, by omega⟩ dL_law_1978 (fun v1 w1 hp => ?_)
  refine g_wf (fun hwf1 => ?_)
  obtain ⟨⟨k1, hv1, hk1⟩, hcalm⟩ := a_way hC ho ⟨n0, s0, hO0⟩ hp
  subst hv1
  have hkm : KM τ w w1 := by
    obtain ⟨_, _, _, _, _, _, q, _⟩ := hcalm
    exact q
  have hM1 := hM.keep hkm.2
  refine g_istore C dL_law_1981 (by decide) rfl ?_
  refine g_aload_n C dL_law_1983 rfl ?_
  refine g_aload_n C dL_law_1984 rfl ?_
  refine g_iload C dL_law_1985 rfl ?_
  refine g_iconst C dL_law_1987 ?_
  refine g_iadd C dL_law_1988 ?_
  refine g_sld (5 * t + 1) C hS (by omega) (by omega) dL_law_1989 ?_
  refine t_callV C hT (c_X8_way _ (hf (5 * t + 1)) hM1 hg.2.2.2.1) (RcV.ob (ci := 10) C rfl hM1.o) rfl ml_RL_308 im_yX8_way se_RX8_yX8_way in_RX8 co_yX8_way hd_X8_way rfl ⟨by omega, by omega⟩ rfl (Nat.le_of_ble_eq_true rfl) ⟨by omega, by omega⟩ dL_law_1990 (fun v1990 w1990 hp1990 => ?_)
  refine g_wf (fun hwf2 => ?_)
  obtain ⟨t2, s2, hv2, hM2, hk2, h02⟩ := hp1990
  subst hv2
  have hI2 := inv_ask hwf1 hwf2 hcalm rfl ho hk2 hM2 h02 hg hr
  refine g_astore C dL_law_1993 (by decide) rfl ?_
  refine g_goto (tgt := 2213) C dL_law_1995 (by decide) ?_
  exact g_drop 5 (g_drop 6 (g_widen (by omega) (by omega) (kk _ hI2)))
set_option maxHeartbeats 4000000 in
set_option maxRecDepth 100000 in
theorem lc_product {K : KC} {E : GE} {X : XT} {b N : Nat} {f : Nat → Int} {x m o t k n : Nat} {w : Wd} (LX : LawX K E X b N f) (ht : 5 * t + 5 ≤ N) (hI : INV x m o t w) (hk : k + 2000 ≤ 929463) (hn : n + 80000 ≤ 6313092) (kk : ∀ w', INV x m o (t + 1) w' → G E X 7 2213 (LL b x m o t) [] w' (k + 2000) (n + 80000)) : G E X 7 1998 (LL b x m o t) [] w k n := by
  obtain ⟨C, hT, hH, hls, ⟨hRf, hRl, hRc, hRs⟩, hS⟩ := LX
  have hf := hS.2.2.2.1
  have hN := hS.2.2.2.2
  obtain ⟨τ, ad, bs, ss, pb, P, Q, ct, A, th, ba, st, pm, le, ri, sp, cm, hC, hM, hx, ho, ⟨n0, s0, hO0⟩, hg, hr⟩ := hI
  subst hx
  refine g_wf (fun hwf => ?_)
  refine g_aload_n C dL_law_1998 rfl ?_
  refine g_aload_n C dL_law_1999 rfl ?_
  refine g_iload C dL_law_2000 rfl ?_
  refine g_iconst C dL_law_2002 ?_
  refine g_iadd C dL_law_2003 ?_
  refine g_sld (5 * t + 1) C hS (by omega) (by omega) dL_law_2004 ?_
  refine g_aload_n C dL_law_2005 rfl ?_
  refine g_iload C dL_law_2006 rfl ?_
  refine g_iconst C dL_law_2008 ?_
  refine g_iadd C dL_law_2009 ?_
  refine g_sld (5 * t + 2) C hS (by omega) (by omega) dL_law_2010 ?_
  refine g_aload_n C dL_law_2011 rfl ?_
  refine x_callH C hT hH (w_L_product _ hls hC ho hO0 (hf (5 * t + 1)) (hf (5 * t + 2))) ml_RL_309 sm_yL_product in_RL co_yL_product hd_L_product rfl ⟨by omega, by omega⟩ rfl (Nat.le_of_ble_eq_true rfl) ⟨by omega, by omega⟩ dL_law_2012 (fun v1 w1 hp => ?_)
  refine g_wf (fun hwf1 => ?_)
  obtain ⟨⟨k1, hv1, hk1⟩, hcalm⟩ := a_product hC ho ⟨n0, s0, hO0⟩ hp
  subst hv1
  have hkm : KM τ w w1 := by
    obtain ⟨_, _, _, _, _, _, q, _⟩ := hcalm
    exact q
  have hM1 := hM.keep hkm.2
  refine g_istore C dL_law_2015 (by decide) rfl ?_
  refine g_aload_n C dL_law_2017 rfl ?_
  refine g_aload_n C dL_law_2018 rfl ?_
  refine g_iload C dL_law_2019 rfl ?_
  refine g_iconst C dL_law_2021 ?_
  refine g_iadd C dL_law_2022 ?_
  refine g_sld (5 * t + 1) C hS (by omega) (by omega) dL_law_2023 ?_
  refine g_aload_n C dL_law_2024 rfl ?_
  refine g_iload C dL_law_2025 rfl ?_
  refine g_iconst C dL_law_2027 ?_
  refine g_iadd C dL_law_2028 ?_
  refine g_sld (5 * t + 2) C hS (by omega) (by omega) dL_law_2029 ?_
  refine t_callV C hT (c_X8_product_ _ (hf (5 * t + 1)) (hf (5 * t + 2)) hM1 hg.2.2.2.1) (RcV.ob (ci := 10) C rfl hM1.o) rfl ml_RL_311 im_yX8_product_ se_RX8_yX8_product_ in_RX8 co_yX8_product_ hd_X8_product_ rfl ⟨by omega, by omega⟩ rfl (Nat.le_of_ble_eq_true rfl) ⟨by omega, by omega⟩ dL_law_2030 (fun v2030 w2030 hp2030 => ?_)
  refine g_wf (fun hwf2 => ?_)
  obtain ⟨t2, s2, hv2, hM2, hk2, h02⟩ := hp2030
  subst hv2
  have hI2 := inv_ask hwf1 hwf2 hcalm rfl ho hk2 hM2 h02 hg hr
  refine g_astore C dL_law_2033 (by decide) rfl ?_
  refine g_goto (tgt := 2213) C dL_law_2035 (by decide) ?_
  exact g_drop 5 (g_drop 6 (g_widen (by omega) (by omega) (kk _ hI2)))
set_option maxHeartbeats 4000000 in
set_option maxRecDepth 100000 in
theorem lc_symbol {K : KC} {E : GE} {X : XT} {b N : Nat} {f : Nat → Int} {x m o t k n : Nat} {w : Wd} (LX : LawX K E X b N f) (ht : 5 * t + 5 ≤ N) (hI : INV x m o t w) (hk : k + 2000 ≤ 929463) (hn : n + 80000 ≤ 6313092) (kk : ∀ w', INV x m o (t + 1) w' → G E X 7 2213 (LL b x m o t) [] w' (k + 2000) (n + 80000)) : G E X 7 2038 (LL b x m o t) [] w k n := by
  obtain ⟨C, hT, hH, hls, ⟨hRf, hRl, hRc, hRs⟩, hS⟩ := LX
  have hf := hS.2.2.2.1
  have hN := hS.2.2.2.2
  obtain ⟨τ, ad, bs, ss, pb, P, Q, ct, A, th, ba, st, pm, le, ri, sp, cm, hC, hM, hx, ho, ⟨n0, s0, hO0⟩, hg, hr⟩ := hI
  subst hx
  refine g_wf (fun hwf => ?_)
  refine g_aload_n C dL_law_2038 rfl ?_
  refine g_aload_n C dL_law_2039 rfl ?_
  refine g_iload C dL_law_2040 rfl ?_
  refine g_iconst C dL_law_2042 ?_
  refine g_iadd C dL_law_2043 ?_
  refine g_sld (5 * t + 1) C hS (by omega) (by omega) dL_law_2044 ?_
  refine g_aload_n C dL_law_2045 rfl ?_
  refine g_iload C dL_law_2046 rfl ?_
  refine g_iconst C dL_law_2048 ?_
  refine g_iadd C dL_law_2049 ?_
  refine g_sld (5 * t + 2) C hS (by omega) (by omega) dL_law_2050 ?_
  refine g_aload_n C dL_law_2051 rfl ?_
  refine x_callH C hT hH (w_L_symbol _ hls hC ho hO0 (hf (5 * t + 1)) (hf (5 * t + 2))) ml_RL_312 sm_yL_symbol in_RL co_yL_symbol hd_L_symbol rfl ⟨by omega, by omega⟩ rfl (Nat.le_of_ble_eq_true rfl) ⟨by omega, by omega⟩ dL_law_2052 (fun v1 w1 hp => ?_)
  refine g_wf (fun hwf1 => ?_)
  obtain ⟨⟨k1, hv1, hk1⟩, hcalm⟩ := a_symbol hC ho ⟨n0, s0, hO0⟩ hp
  subst hv1
  have hkm : KM τ w w1 := by
    obtain ⟨_, _, _, _, _, _, q, _⟩ := hcalm
    exact q
  have hM1 := hM.keep hkm.2
  refine g_istore C dL_law_2055 (by decide) rfl ?_
  refine g_aload_n C dL_law_2057 rfl ?_
  refine g_aload_n C dL_law_2058 rfl ?_
  refine g_iload C dL_law_2059 rfl ?_
  refine g_iconst C dL_law_2061 ?_
  refine g_iadd C dL_law_2062 ?_
  refine g_sld (5 * t + 1) C hS (by omega) (by omega) dL_law_2063 ?_
  refine g_aload_n C dL_law_2064 rfl ?_
  refine g_iload C dL_law_2065 rfl ?_
  refine g_iconst C dL_law_2067 ?_
  refine g_iadd C dL_law_2068 ?_
  refine g_sld (5 * t + 2) C hS (by omega) (by omega) dL_law_2069 ?_
  refine g_callV C (c_X8_symbol _ (hf (5 * t + 1)) (hf (5 * t + 2)) hM1 hg.2.2.2.1) (ci := 10) rfl hM1.o rfl ml_RL_314 im_yX8_symbol se_RX8_yX8_symbol in_RX8 co_yX8_symbol hd_X8_symbol rfl ⟨by omega, by omega⟩ rfl (Nat.le_of_ble_eq_true rfl) ⟨by omega, by omega⟩ dL_law_2070 (fun v2070 w2070 hp2070 => ?_)
  refine g_wf (fun hwf2 => ?_)
  obtain ⟨t2, ans, hv2, hM2, hk2, hcs⟩ := hp2070
  subst hv2
  have h02 : 0 ≤ t2 ∧ t2 ≤ 2 := by omega
  have hI2 := inv_ask hwf1 hwf2 hcalm rfl ho hk2 hM2 h02 hg hr
  refine g_istore C dL_law_2073 (by decide) rfl ?_
  refine g_goto (tgt := 2213) C dL_law_2075 (by decide) ?_
  exact g_drop 5 (g_drop 6 (g_widen (by omega) (by omega) (kk _ hI2)))
set_option maxHeartbeats 4000000 in
set_option maxRecDepth 100000 in
theorem lc_inverse {K : KC} {E : GE} {X : XT} {b N : Nat} {f : Nat → Int} {x m o t k n : Nat} {w : Wd} (LX : LawX K E X b N f) (ht : 5 * t + 5 ≤ N) (hI : INV x m o t w) (hk : k + 2000 ≤ 929463) (hn : n + 80000 ≤ 6313092) (kk : ∀ w', INV x m o (t + 1) w' → G E X 7 2213 (LL b x m o t) [] w' (k + 2000) (n + 80000)) : G E X 7 2078 (LL b x m o t) [] w k n := by
  obtain ⟨C, hT, hH, hls, ⟨hRf, hRl, hRc, hRs⟩, hS⟩ := LX
  have hf := hS.2.2.2.1
  have hN := hS.2.2.2.2
  obtain ⟨τ, ad, bs, ss, pb, P, Q, ct, A, th, ba, st, pm, le, ri, sp, cm, hC, hM, hx, ho, ⟨n0, s0, hO0⟩, hg, hr⟩ := hI
  subst hx
  refine g_wf (fun hwf => ?_)
  refine g_aload_n C dL_law_2078 rfl ?_
  refine g_aload_n C dL_law_2079 rfl ?_
  refine g_iload C dL_law_2080 rfl ?_
  refine g_iconst C dL_law_2082 ?_
  refine g_iadd C dL_law_2083 ?_
  refine g_sld (5 * t + 1) C hS (by omega) (by omega) dL_law_2084 ?_
  refine g_aload_n C dL_law_2085 rfl ?_
  refine g_iload C dL_law_2086 rfl ?_
  refine g_iconst C dL_law_2088 ?_
  refine g_iadd C dL_law_2089 ?_
  refine g_sld (5 * t + 2) C hS (by omega) (by omega) dL_law_2090 ?_
  refine g_aload_n C dL_law_2091 rfl ?_
  refine x_callH C hT hH (w_L_inverse _ hls hC ho hO0 (hf (5 * t + 1)) (hf (5 * t + 2))) ml_RL_315 sm_yL_inverse in_RL co_yL_inverse hd_L_inverse rfl ⟨by omega, by omega⟩ rfl (Nat.le_of_ble_eq_true rfl) ⟨by omega, by omega⟩ dL_law_2092 (fun v1 w1 hp => ?_)
  refine g_wf (fun hwf1 => ?_)
  obtain ⟨⟨k1, hv1, hk1⟩, hcalm⟩ := a_inverse hC ho ⟨n0, s0, hO0⟩ hp
  subst hv1
  have hkm : KM τ w w1 := by
    obtain ⟨_, _, _, _, _, _, q, _⟩ := hcalm
    exact q
  have hM1 := hM.keep hkm.2
  refine g_istore C dL_law_2095 (by decide) rfl ?_
  refine g_aload_n C dL_law_2097 rfl ?_
  refine g_aload_n C dL_law_2098 rfl ?_
  refine g_iload C dL_law_2099 rfl ?_
  refine g_iconst C dL_law_2101 ?_
  refine g_iadd C dL_law_2102 ?_
  refine g_sld (5 * t + 1) C hS (by omega) (by omega) dL_law_2103 ?_
  refine g_aload_n C dL_law_2104 rfl ?_
  refine g_iload C dL_law_2105 rfl ?_
  refine g_iconst C dL_law_2107 ?_
  refine g_iadd C dL_law_2108 ?_
  refine g_sld (5 * t + 2) C hS (by omega) (by omega) dL_law_2109 ?_
  refine g_callV C (c_X8_inverse _ (hf (5 * t + 1)) (hf (5 * t + 2)) hM1 hg.2.2.2.1) (ci := 10) rfl hM1.o rfl ml_RL_317 im_yX8_inverse se_RX8_yX8_inverse in_RX8 co_yX8_inverse hd_X8_inverse rfl ⟨by omega, by omega⟩ rfl (Nat.le_of_ble_eq_true rfl) ⟨by omega, by omega⟩ dL_law_2110 (fun v2110 w2110 hp2110 => ?_)
  refine g_wf (fun hwf2 => ?_)
  obtain ⟨t2, ans, hv2, hM2, hk2, hcs⟩ := hp2110
  subst hv2
  have h02 : 0 ≤ t2 ∧ t2 ≤ 2 := by omega
  have hI2 := inv_ask hwf1 hwf2 hcalm rfl ho hk2 hM2 h02 hg hr
  refine g_istore C dL_law_2113 (by decide) rfl ?_
  refine g_goto (tgt := 2213) C dL_law_2115 (by decide) ?_
  exact g_drop 5 (g_drop 6 (g_widen (by omega) (by omega) (kk _ hI2)))
set_option maxHeartbeats 4000000 in
set_option maxRecDepth 100000 in
theorem lc_isPrime {K : KC} {E : GE} {X : XT} {b N : Nat} {f : Nat → Int} {x m o t k n : Nat} {w : Wd} (LX : LawX K E X b N f) (ht : 5 * t + 5 ≤ N) (hI : INV x m o t w) (hk : k + 2000 ≤ 929463) (hn : n + 80000 ≤ 6313092) (kk : ∀ w', INV x m o (t + 1) w' → G E X 7 2213 (LL b x m o t) [] w' (k + 2000) (n + 80000)) : G E X 7 2118 (LL b x m o t) [] w k n := by
  obtain ⟨C, hT, hH, hls, ⟨hRf, hRl, hRc, hRs⟩, hS⟩ := LX
  have hf := hS.2.2.2.1
  have hN := hS.2.2.2.2
  obtain ⟨τ, ad, bs, ss, pb, P, Q, ct, A, th, ba, st, pm, le, ri, sp, cm, hC, hM, hx, ho, ⟨n0, s0, hO0⟩, hg, hr⟩ := hI
  subst hx
  refine g_wf (fun hwf => ?_)
  refine g_aload_n C dL_law_2118 rfl ?_
  refine g_aload_n C dL_law_2119 rfl ?_
  refine g_iload C dL_law_2120 rfl ?_
  refine g_iconst C dL_law_2122 ?_
  refine g_iadd C dL_law_2123 ?_
  refine g_sld (5 * t + 1) C hS (by omega) (by omega) dL_law_2124 ?_
  refine g_aload_n C dL_law_2125 rfl ?_
  refine x_callH C hT hH (w_L_isPrime _ hls hC ho hO0 (hf (5 * t + 1))) ml_RL_318 sm_yL_isPrime in_RL co_yL_isPrime hd_L_isPrime rfl ⟨by omega, by omega⟩ rfl (Nat.le_of_ble_eq_true rfl) ⟨by omega, by omega⟩ dL_law_2126 (fun v1 w1 hp => ?_)
  refine g_wf (fun hwf1 => ?_)
  obtain ⟨⟨k1, hv1, hk1⟩, hcalm⟩ := a_isPrime hC ho ⟨n0, s0, hO0⟩ hp
  subst hv1
  have hkm : KM τ w w1 := by
    obtain ⟨_, _, _, _, _, _, q, _⟩ := hcalm
    exact q
  have hM1 := hM.keep hkm.2
  refine g_istore C dL_law_2129 (by decide) rfl ?_
  refine g_aload_n C dL_law_2131 rfl ?_
  refine g_aload_n C dL_law_2132 rfl ?_
  refine g_iload C dL_law_2133 rfl ?_
  refine g_iconst C dL_law_2135 ?_
  refine g_iadd C dL_law_2136 ?_
  refine g_sld (5 * t + 1) C hS (by omega) (by omega) dL_law_2137 ?_
  refine g_callV C (c_X8_isPrime _ (hf (5 * t + 1)) hM1) (ci := 10) rfl hM1.o rfl ml_RL_320 im_yX8_isPrime se_RX8_yX8_isPrime in_RX8 co_yX8_isPrime hd_X8_isPrime rfl ⟨by omega, by omega⟩ rfl (Nat.le_of_ble_eq_true rfl) ⟨by omega, by omega⟩ dL_law_2138 (fun v2138 w2138 hp2138 => ?_)
  refine g_wf (fun hwf2 => ?_)
  obtain ⟨t2, ans, hv2, hM2, hk2, hcs⟩ := hp2138
  subst hv2
  have h02 : 0 ≤ t2 ∧ t2 ≤ 2 := by omega
  have hI2 := inv_ask hwf1 hwf2 hcalm rfl ho hk2 hM2 h02 hg hr
  refine g_istore C dL_law_2141 (by decide) rfl ?_
  refine g_goto (tgt := 2213) C dL_law_2143 (by decide) ?_
  exact g_drop 5 (g_drop 6 (g_widen (by omega) (by omega) (kk _ hI2)))
set_option maxHeartbeats 4000000 in
set_option maxRecDepth 100000 in
theorem lc_house {K : KC} {E : GE} {X : XT} {b N : Nat} {f : Nat → Int} {x m o t k n : Nat} {w : Wd} (LX : LawX K E X b N f) (ht : 5 * t + 5 ≤ N) (hI : INV x m o t w) (hk : k + 2000 ≤ 929463) (hn : n + 80000 ≤ 6313092) (kk : ∀ w', INV x m o (t + 1) w' → G E X 7 2213 (LL b x m o t) [] w' (k + 2000) (n + 80000)) : G E X 7 2146 (LL b x m o t) [] w k n := by
  obtain ⟨C, hT, hH, hls, ⟨hRf, hRl, hRc, hRs⟩, hS⟩ := LX
  have hf := hS.2.2.2.1
  have hN := hS.2.2.2.2
  obtain ⟨τ, ad, bs, ss, pb, P, Q, ct, A, th, ba, st, pm, le, ri, sp, cm, hC, hM, hx, ho, ⟨n0, s0, hO0⟩, hg, hr⟩ := hI
  subst hx
  refine g_wf (fun hwf => ?_)
  refine g_aload_n C dL_law_2146 rfl ?_
  refine g_aload_n C dL_law_2147 rfl ?_
  refine g_iload C dL_law_2148 rfl ?_
  refine g_iconst C dL_law_2150 ?_
  refine g_iadd C dL_law_2151 ?_
  refine g_sld (5 * t + 1) C hS (by omega) (by omega) dL_law_2152 ?_
  refine g_aload_n C dL_law_2153 rfl ?_
  refine x_callH C hT hH (w_L_house _ hls hC ho hO0 (hf (5 * t + 1))) ml_RL_321 sm_yL_house in_RL co_yL_house hd_L_house rfl ⟨by omega, by omega⟩ rfl (Nat.le_of_ble_eq_true rfl) ⟨by omega, by omega⟩ dL_law_2154 (fun v1 w1 hp => ?_)
  refine g_wf (fun hwf1 => ?_)
  obtain ⟨⟨k1, hv1, hk1⟩, hcalm⟩ := a_house hC ho ⟨n0, s0, hO0⟩ hp
  subst hv1
  have hkm : KM τ w w1 := by
    obtain ⟨_, _, _, _, _, _, q, _⟩ := hcalm
    exact q
  have hM1 := hM.keep hkm.2
  refine g_istore C dL_law_2157 (by decide) rfl ?_
  refine g_aload_n C dL_law_2159 rfl ?_
  refine g_aload_n C dL_law_2160 rfl ?_
  refine g_iload C dL_law_2161 rfl ?_
  refine g_iconst C dL_law_2163 ?_
  refine g_iadd C dL_law_2164 ?_
  refine g_sld (5 * t + 1) C hS (by omega) (by omega) dL_law_2165 ?_
  refine g_callV C (c_X8_house _ (hf (5 * t + 1)) hM1) (ci := 10) rfl hM1.o rfl ml_RL_323 im_yX8_house se_RX8_yX8_house in_RX8 co_yX8_house hd_X8_house rfl ⟨by omega, by omega⟩ rfl (Nat.le_of_ble_eq_true rfl) ⟨by omega, by omega⟩ dL_law_2166 (fun v2166 w2166 hp2166 => ?_)
  refine g_wf (fun hwf2 => ?_)
  obtain ⟨t2, ans, hv2, hM2, hk2, hcs⟩ := hp2166
  subst hv2
  have h02 : 0 ≤ t2 ∧ t2 ≤ 2 := by omega
  have hI2 := inv_ask hwf1 hwf2 hcalm rfl ho hk2 hM2 h02 hg hr
  refine g_istore C dL_law_2169 (by decide) rfl ?_
  refine g_goto (tgt := 2213) C dL_law_2171 (by decide) ?_
  exact g_drop 5 (g_drop 6 (g_widen (by omega) (by omega) (kk _ hI2)))
set_option maxHeartbeats 4000000 in
set_option maxRecDepth 100000 in
theorem lc_knock {K : KC} {E : GE} {X : XT} {b N : Nat} {f : Nat → Int} {x m o t k n : Nat} {w : Wd} (LX : LawX K E X b N f) (ht : 5 * t + 5 ≤ N) (hI : INV x m o t w) (hk : k + 2000 ≤ 929463) (hn : n + 80000 ≤ 6313092) (kk : ∀ w', INV x m o (t + 1) w' → G E X 7 2213 (LL b x m o t) [] w' (k + 2000) (n + 80000)) : G E X 7 2174 (LL b x m o t) [] w k n := by
  obtain ⟨C, hT, hH, hls, ⟨hRf, hRl, hRc, hRs⟩, hS⟩ := LX
  have hf := hS.2.2.2.1
  have hN := hS.2.2.2.2
  obtain ⟨τ, ad, bs, ss, pb, P, Q, ct, A, th, ba, st, pm, le, ri, sp, cm, hC, hM, hx, ho, ⟨n0, s0, hO0⟩, hg, hr⟩ := hI
  subst hx
  refine g_wf (fun hwf => ?_)
  refine g_aload_n C dL_law_2174 rfl ?_
  refine t_callV C hT (s_X6_knock _ hC ) (RcV.ob (ci := 8) C rfl hC.o) rfl ml_RL_324 im_yX6_knock se_RX6_yX6_knock in_RX6 co_yX6_knock hd_X6_knock rfl ⟨by omega, by omega⟩ rfl (Nat.le_of_ble_eq_true rfl) ⟨by omega, by omega⟩ dL_law_2175 (fun v2175 w2175 hp2175 => ?_)
  refine g_wf (fun hwf1 => ?_)
  obtain ⟨hv1, hC1, hko⟩ := hp2175
  subst hv1
  have hkm := hko.km
  have hM1 := hM.keep hkm.2
  have hOU : OU w2175 o := ⟨n0, s0, hko.2 o _ (Or.inr ho) hO0⟩
  refine g_pop C dL_law_2178 rfl ?_
  refine g_aload_n C dL_law_2179 rfl ?_
  refine g_callV C (c_X8_knock _ hM1) (ci := 10) rfl hM1.o rfl ml_RL_327 im_yX8_knock se_RX8_yX8_knock in_RX8 co_yX8_knock hd_X8_knock rfl ⟨by omega, by omega⟩ rfl (Nat.le_of_ble_eq_true rfl) ⟨by omega, by omega⟩ dL_law_2180 (fun v2180 w2180 hp2180 => ?_)
  refine g_wf (fun hwf2 => ?_)
  obtain ⟨hv2, hM2, hk2⟩ := hp2180
  subst hv2
  have hr4 := hr.2.2 4 (by omega)
  have hg4 := hg.2.2.2.2.2 4 (by omega)
  have hI2 := inv_md (t := t + 1) hwf1 hwf2 hC1 rfl ho hOU hk2 (fun _ _ => rfl) hM2 ⟨hg.1, hg.2.1, hg.2.2.1, hg.2.2.2.1, by omega, cm_up hg.2.2.2.2.2 4⟩ ⟨hr.1, hr.2.1, ctu hr.2.2 (by omega)⟩
  refine g_pop C dL_law_2183 rfl ?_
  refine g_goto (tgt := 2213) C dL_law_2184 (by decide) ?_
  exact g_drop 5 (g_drop 6 (g_widen (by omega) (by omega) (kk _ hI2)))
set_option maxHeartbeats 4000000 in
set_option maxRecDepth 100000 in
theorem lc_isSound {K : KC} {E : GE} {X : XT} {b N : Nat} {f : Nat → Int} {x m o t k n : Nat} {w : Wd} (LX : LawX K E X b N f) (ht : 5 * t + 5 ≤ N) (hI : INV x m o t w) (hk : k + 2000 ≤ 929463) (hn : n + 80000 ≤ 6313092) (kk : ∀ w', INV x m o (t + 1) w' → G E X 7 2213 (LL b x m o t) [] w' (k + 2000) (n + 80000)) : G E X 7 2187 (LL b x m o t) [] w k n := by
  obtain ⟨C, hT, hH, hls, ⟨hRf, hRl, hRc, hRs⟩, hS⟩ := LX
  have hf := hS.2.2.2.1
  have hN := hS.2.2.2.2
  obtain ⟨τ, ad, bs, ss, pb, P, Q, ct, A, th, ba, st, pm, le, ri, sp, cm, hC, hM, hx, ho, ⟨n0, s0, hO0⟩, hg, hr⟩ := hI
  subst hx
  refine g_wf (fun hwf => ?_)
  refine g_aload_n C dL_law_2187 rfl ?_
  refine t_callV C hT (s_X6_isSound _ hC ) (RcV.ob (ci := 8) C rfl hC.o) rfl ml_RL_328 im_yX6_isSound se_RX6_yX6_isSound in_RX6 co_yX6_isSound hd_X6_isSound rfl ⟨by omega, by omega⟩ rfl (Nat.le_of_ble_eq_true rfl) ⟨by omega, by omega⟩ dL_law_2188 (fun v2188 w2188 hp2188 => ?_)
  refine g_wf (fun hwf1 => ?_)
  obtain ⟨hv1, hC1, hko⟩ := hp2188
  subst hv1
  have hkm := hko.km
  have hM1 := hM.keep hkm.2
  have hOU : OU w2188 o := ⟨n0, s0, hko.2 o _ (Or.inr ho) hO0⟩
  have hcalm : CALM τ ad o w w2188 bs ss pb P Q ct := ⟨_, _, _, hC1, fun _ _ => ⟨rfl, rfl⟩, fun _ _ => rfl, hkm, hOU⟩
  refine g_pop C dL_law_2191 rfl ?_
  refine g_aload_n C dL_law_2192 rfl ?_
  refine g_callV C (c_X8_isSound _ hM1 hg.1 hg.2.1 hg.2.2.1 hg.2.2.2.1) (ci := 10) rfl hM1.o rfl ml_RL_332 im_yX8_isSound se_RX8_yX8_isSound in_RX8 co_yX8_isSound hd_X8_isSound rfl ⟨by omega, by omega⟩ rfl (Nat.le_of_ble_eq_true rfl) ⟨by omega, by omega⟩ dL_law_2193 (fun v2193 w2193 hp2193 => ?_)
  refine g_wf (fun hwf2 => ?_)
  obtain ⟨hv2, hM2, hk2⟩ := hp2193
  subst hv2
  have h02 : (0 : Int) ≤ 0 ∧ (0 : Int) ≤ 2 := by omega
  have hI2 := inv_ask hwf1 hwf2 hcalm rfl ho hk2 hM2 h02 hg hr
  refine g_pop C dL_law_2196 rfl ?_
  refine g_goto (tgt := 2213) C dL_law_2197 (by decide) ?_
  exact g_drop 5 (g_drop 6 (g_widen (by omega) (by omega) (kk _ hI2)))
set_option maxHeartbeats 4000000 in
set_option maxRecDepth 100000 in
theorem lc_digest {K : KC} {E : GE} {X : XT} {b N : Nat} {f : Nat → Int} {x m o t k n : Nat} {w : Wd} (LX : LawX K E X b N f) (ht : 5 * t + 5 ≤ N) (hI : INV x m o t w) (hk : k + 2000 ≤ 929463) (hn : n + 80000 ≤ 6313092) (kk : ∀ w', INV x m o (t + 1) w' → G E X 7 2213 (LL b x m o t) [] w' (k + 2000) (n + 80000)) : G E X 7 2200 (LL b x m o t) [] w k n := by
  obtain ⟨C, hT, hH, hls, ⟨hRf, hRl, hRc, hRs⟩, hS⟩ := LX
  have hf := hS.2.2.2.1
  have hN := hS.2.2.2.2
  obtain ⟨τ, ad, bs, ss, pb, P, Q, ct, A, th, ba, st, pm, le, ri, sp, cm, hC, hM, hx, ho, ⟨n0, s0, hO0⟩, hg, hr⟩ := hI
  subst hx
  refine g_wf (fun hwf => ?_)
  refine g_aload_n C dL_law_2200 rfl ?_
  refine t_callV C hT (s_X6_digest _ hC (fun i hi => by have h1 := hg.2.2.2.2.2 i hi; have h2 := hr.2.2 i hi; omega)) (RcV.ob (ci := 8) C rfl hC.o) rfl ml_RL_333 im_yX6_digest se_RX6_yX6_digest in_RX6 co_yX6_digest hd_X6_digest rfl ⟨by omega, by omega⟩ rfl (Nat.le_of_ble_eq_true rfl) ⟨by omega, by omega⟩ dL_law_2201 (fun v2201 w2201 hp2201 => ?_)
  refine g_wf (fun hwf1 => ?_)
  obtain ⟨⟨rt1, hrt1, hv1⟩, hC1, hko⟩ := hp2201
  subst hv1
  have hkm := hko.km
  have hM1 := hM.keep hkm.2
  have hOU : OU w2201 o := ⟨n0, s0, hko.2 o _ (Or.inr ho) hO0⟩
  have hcalm : CALM τ ad o w w2201 bs ss pb P Q ct := ⟨_, _, _, hC1, fun _ _ => ⟨rfl, rfl⟩, fun _ _ => rfl, hkm, hOU⟩
  refine g_pop2L C dL_law_2204 rfl ?_
  refine g_aload_n C dL_law_2205 rfl ?_
  refine g_callV C (c_X8_digest _ hM1 hg.1 hg.2.1 hg.2.2.1 hg.2.2.2.1 (fun i hi => by have := hg.2.2.2.2.2 i hi; omega)) (ci := 10) rfl hM1.o rfl ml_RL_337 im_yX8_digest se_RX8_yX8_digest in_RX8 co_yX8_digest hd_X8_digest rfl ⟨by omega, by omega⟩ rfl (Nat.le_of_ble_eq_true rfl) ⟨by omega, by omega⟩ dL_law_2206 (fun v2206 w2206 hp2206 => ?_)
  refine g_wf (fun hwf2 => ?_)
  obtain ⟨z2, hv2, hM2, hk2, hcs⟩ := hp2206
  subst hv2
  have h02 : (0 : Int) ≤ 0 ∧ (0 : Int) ≤ 2 := by omega
  have hI2 := inv_ask hwf1 hwf2 hcalm rfl ho hk2 hM2 h02 hg hr
  refine g_pop2L C dL_law_2209 rfl ?_
  refine g_goto (tgt := 2213) C dL_law_2210 (by decide) ?_
  exact g_drop 5 (g_drop 6 (g_widen (by omega) (by omega) (kk _ hI2)))
/-! the law's loop and its entry -/
theorem b63 (x : Int32) : ∃ y : Int, x &&& Int32.ofInt 63 = Int32.ofInt y ∧ 0 ≤ y ∧ y ≤ 63 := by
  refine ⟨x.toInt % (2 : Int) ^ 6, ?_, ?_, ?_⟩
  · have e := i_mask (x := x.toInt) (m := 63) 6 (by omega) (by decide)
    rw [← i_of x] at e
    exact e
  · exact Int.emod_nonneg _ (by decide)
  · have := Int.emod_lt_of_pos x.toInt (b := (2 : Int) ^ 6) (by decide)
    have e : (2 : Int) ^ 6 = 64 := by decide
    omega
theorem INV.up {x m o t : Nat} {w : Wd} (h : INV x m o t w) : INV x m o (t + 1) w := by
  obtain ⟨τ, ad, bs, ss, pb, P, Q, ct, A, th, ba, st, pm, le, ri, sp, cm, h1, h2, h3, h4, h5, h6, h7⟩ := h
  exact ⟨τ, ad, bs, ss, pb, P, Q, ct, A, th, ba, st, pm, le, ri, sp, cm, h1, h2, h3, h4, h5, h6.up, h7⟩
theorem cs_mark {τ ad : Nat → Nat} {w w' : Wd} {bs ss : Nat → Int} {pb : Nat → PT} {P Q : Nat → Nat} {ct : Nat → Int} (h : CS τ ad w bs ss pb P Q ct) (f : wF w) {m : Nat} (tag : Nat) (hm : w.1 ≤ m) (hw' : m < w'.1) (k : ∀ a x, w.2 a = some x → w'.2 a = some x) : ∃ τ' ad' : Nat → Nat, τ' m = tag ∧ ad' 100 = ad 100 ∧ CS τ' ad' w' bs ss pb P Q ct := by
  have lt := fun t (h1 : 100 ≤ t) (h2 : us t = true) => h.lt f h1 h2
  refine ⟨tam (fun q => if q = m then tag else τ q) w'.1, adm ad w'.1, ?_, adm_u (by omega), (h.kq (fun t x _ _ e => k _ _ e)).retag (fun t h1 h2 => ?_)⟩
  · show (if m < w'.1 then (if m = m then tag else τ m) else m - w'.1) = tag
    rw [if_pos hw', if_pos rfl]
  · have l := lt t h1 h2
    refine ⟨by omega, ?_⟩
    show (if ad t = m then tag else τ (ad t)) = τ (ad t)
    rw [if_neg (by omega)]
theorem inv_0 {τ3 τ4 ad3 : Nat → Nat} {u w w' : Wd} {m : Nat} {A : MA} {ba st pm le ri : Nat → Int} {sp : Nat → Nat → Int} {cm : Nat → Int} (fu : wF u) (fw : wF w)
    (hC3 : CS τ3 ad3 u (fun _ => 2) (fun _ => 0) (fun _ => (2, 1, 0)) (fun _ => 5) (fun _ => 0) (fun _ => 0)) (hk : Keep τ3 u w) (ht : ∀ a, a < u.1 → τ4 a = τ3 a) (hM : MSx τ4 w m A 0 ba st pm le ri sp cm) (hi4 : ∀ i, i < 3 → ba i = 2 ∧ st i = 0 ∧ pm i = 2 ∧ le i = 1 ∧ ri i = 0 ∧ SpR (sp i) 5 0) (hc : ∀ i, cm i = 0)
    (hw' : w'.1 = w.1 + 1) (hx' : ∀ a x, w.2 a = some x → w'.2 a = some x) (ho : w'.2 w.1 = some (true, eO 9 [jJ 0, .null])) : INV (ad3 100) m w.1 0 w' := by
  have hC5 := (hC3.ke hk).kq (w' := w') (fun t x _ _ e => hx' _ _ e)
  have lt := fun t (h1 : 100 ≤ t) (h2 : us t = true) => hC3.lt fu h1 h2
  have l1 := hk.1
  refine ⟨tam (fun q => if q = w.1 then 199 else τ4 q) w'.1, adm ad3 w'.1, _, _, _, _, _, _, A, 0, ba, st, pm, le, ri, sp, cm, hC5.retag (fun t h1 h2 => ?_), (hM.tag fw (fun a ha => ?_)).keep (fun a x _ e => hx' a x e), adm_u (by omega), ?_, ⟨0, .null, ho⟩, ?_, ?_⟩
  · have l := lt t h1 h2
    refine ⟨by omega, ?_⟩
    show (if ad3 t = w.1 then 199 else τ4 (ad3 t)) = τ3 (ad3 t)
    rw [if_neg (by omega)]
    exact ht _ l
  · show (if a < w'.1 then (if a = w.1 then 199 else τ4 a) else a - w'.1) = τ4 a
    rw [if_pos (by omega), if_neg (by omega)]
  · show (if w.1 < w'.1 then (if w.1 = w.1 then 199 else τ4 w.1) else w.1 - w'.1) = 199
    rw [if_pos (by omega), if_pos rfl]
  · refine ⟨fun i hi => by rw [(hi4 i hi).1]; exact GB2, fun i hi => by rw [(hi4 i hi).2.1]; omega, fun i hi => ?_, fun i hi => ⟨5, 0, (hi4 i hi).2.2.2.2.2⟩, by omega, fun i _ => by rw [hc i]; omega⟩
    obtain ⟨-, -, g1, g2, g3, -⟩ := hi4 i hi
    rw [g1, g2, g3]
    exact ⟨GB2, lg_sm (by omega), lg_sm (by omega)⟩
  · exact ⟨fun i hi => ⟨(hi4 i hi).1.symm, (hi4 i hi).2.1.symm, (hi4 i hi).2.2.2.2.2⟩, fun i hi => by
    obtain ⟨-, -, g1, g2, g3, -⟩ := hi4 i hi
    rw [g1, g2, g3], fun i _ => (hc i).symm⟩
set_option maxHeartbeats 4000000 in
set_option maxRecDepth 100000 in
theorem law_step {K : KC} {E : GE} {X : XT} {b N : Nat} {f : Nat → Int} (LX : LawX K E X b N f) (hend : ∀ (L' : List (Option Value)) (w : Wd) (k n : Nat), k ≤ 929463 → n ≤ 6313092 → G E X 7 2220 L' [iI 1] w k n) {x m o t k n : Nat} {w : Wd} (ht : 5 * t ≤ N) (hI : INV x m o t w) (hk0 : k ≤ 929463 ∧ n ≤ 6313092) (hkn : 5 * t + 5 ≤ N → k + 2000 ≤ 929463 ∧ n + 80000 ≤ 6313092) (again : 5 * t + 5 ≤ N → ∀ w', INV x m o (t + 1) w' → G E X 7 27 (LL b x m o (t + 1)) [] w' (k + 2000) (n + 80000)) : G E X 7 27 (LL b x m o t) [] w k n := by
  obtain ⟨C, hT, hH, hls, ⟨hRf, hRl, hRc, hRs⟩, hS⟩ := id LX
  have hf := hS.2.2.2.1
  have hN := hS.2.2.2.2
  have J : 5 * t + 5 ≤ N → ∀ w', INV x m o (t + 1) w' → G E X 7 2213 (LL b x m o t) [] w' (k + 2000) (n + 80000) := fun h5 w' h' => by
    refine g_iinc C dL_law_2213 rfl (by decide) rfl ?_
    refine g_goto (tgt := 27) C dL_law_2216 (by decide) ?_
    refine g_eq ?_ rfl (again h5 w' h')
    show [some (Value.ref b), some (.ref x), some (.ref m), some (.ref o), some (iI (5 * (t : Int) + 5)), none, none] = [some (.ref b), some (.ref x), some (.ref m), some (.ref o), some (iI (5 * ((t + 1 : Nat) : Int))), none, none]
    rw [show 5 * ((t + 1 : Nat) : Int) = 5 * (t : Int) + 5 by omega]
  refine g_iload C dL_law_27 rfl ?_
  refine g_aload_n C dL_law_29 rfl ?_
  refine g_slen C hS dL_law_30 ?_
  refine g_iconst C dL_law_31 ?_
  refine g_isub C dL_law_32 ?_
  refine g_icmp_gt (tgt := 2219) C dL_law_33 (by decide) (by omega) (by omega) (fun h33 => ?_) (fun h33 => ?_)
  · refine g_iconst C dL_law_2219 ?_
    exact hend _ _ _ _ (by omega) (by omega)
  · have h5 : 5 * t + 5 ≤ N := by omega
    obtain ⟨hk, hn⟩ := hkn h5
    refine g_aload_n C dL_law_36 rfl ?_
    refine g_iload C dL_law_37 rfl ?_
    refine g_sld (5 * t) C hS (by omega) (by omega) dL_law_39 ?_
    refine g_bipush C dL_law_40 (by decide) ?_
    obtain ⟨y, hy, y0, y1⟩ := b63 (Int32.ofInt (f (5 * t)))
    refine g_iand (z := y) C dL_law_42 hy ?_
    rcases (show y = 0 ∨ y = 1 ∨ y = 2 ∨ y = 3 ∨ y = 4 ∨ y = 5 ∨ y = 6 ∨ y = 7 ∨ y = 8 ∨ y = 9 ∨ y = 10 ∨ y = 11 ∨ y = 12 ∨ y = 13 ∨ y = 14 ∨ y = 15 ∨ y = 16 ∨ y = 17 ∨ y = 18 ∨ y = 19 ∨ y = 20 ∨ y = 21 ∨ y = 22 ∨ y = 23 ∨ y = 24 ∨ y = 25 ∨ y = 26 ∨ y = 27 ∨ y = 28 ∨ y = 29 ∨ y = 30 ∨ y = 31 ∨ y = 32 ∨ y = 33 ∨ y = 34 ∨ y = 35 ∨ y = 36 ∨ y = 37 ∨ y = 38 ∨ y = 39 ∨ y = 40 ∨ y = 41 ∨ y = 42 ∨ y = 43 ∨ y = 44 ∨ y = 45 ∨ y = 46 ∨ y = 47 ∨ 48 ≤ y by omega) with q | q | q | q | q | q | q | q | q | q | q | q | q | q | q | q | q | q | q | q | q | q | q | q | q | q | q | q | q | q | q | q | q | q | q | q | q | q | q | q | q | q | q | q | q | q | q | q | q
    · subst q
      refine g_tin (tgt := 248) C dL_law_43 (by omega) (by omega) rfl rfl ?_
      exact lc_open LX h5 hI (by omega) (by omega) (J h5)
    · subst q
      refine g_tin (tgt := 288) C dL_law_43 (by omega) (by omega) rfl rfl ?_
      exact lc_forth LX h5 hI (by omega) (by omega) (J h5)
    · subst q
      refine g_tin (tgt := 328) C dL_law_43 (by omega) (by omega) rfl rfl ?_
      exact lc_back LX h5 hI (by omega) (by omega) (J h5)
    · subst q
      refine g_tin (tgt := 356) C dL_law_43 (by omega) (by omega) rfl rfl ?_
      exact lc_walkCopy LX h5 hI (by omega) (by omega) (J h5)
    · subst q
      refine g_tin (tgt := 396) C dL_law_43 (by omega) (by omega) rfl rfl ?_
      exact lc_part LX h5 hI (by omega) (by omega) (J h5)
    · subst q
      refine g_tin (tgt := 436) C dL_law_43 (by omega) (by omega) rfl rfl ?_
      exact lc_walkText LX h5 hI (by omega) (by omega) (J h5)
    · subst q
      refine g_tin (tgt := 488) C dL_law_43 (by omega) (by omega) rfl rfl ?_
      exact lc_test LX h5 hI (by omega) (by omega) (J h5)
    · subst q
      refine g_tin (tgt := 528) C dL_law_43 (by omega) (by omega) rfl rfl ?_
      exact lc_walkBits LX h5 hI (by omega) (by omega) (J h5)
    · subst q
      refine g_tin (tgt := 596) C dL_law_43 (by omega) (by omega) rfl rfl ?_
      exact lc_bit LX h5 hI (by omega) (by omega) (J h5)
    · subst q
      refine g_tin (tgt := 664) C dL_law_43 (by omega) (by omega) rfl rfl ?_
      exact lc_isRead LX h5 hI (by omega) (by omega) (J h5)
    · subst q
      refine g_tin (tgt := 704) C dL_law_43 (by omega) (by omega) rfl rfl ?_
      exact lc_isNear LX h5 hI (by omega) (by omega) (J h5)
    · subst q
      refine g_tin (tgt := 744) C dL_law_43 (by omega) (by omega) rfl rfl ?_
      exact lc_decimals LX h5 hI (by omega) (by omega) (J h5)
    · subst q
      refine g_tin (tgt := 784) C dL_law_43 (by omega) (by omega) rfl rfl ?_
      exact lc_alike LX h5 hI (by omega) (by omega) (J h5)
    · subst q
      refine g_tin (tgt := 812) C dL_law_43 (by omega) (by omega) rfl rfl ?_
      exact lc_rootText LX h5 hI (by omega) (by omega) (J h5)
    · subst q
      refine g_tin (tgt := 852) C dL_law_43 (by omega) (by omega) rfl rfl ?_
      exact lc_period LX h5 hI (by omega) (by omega) (J h5)
    · subst q
      refine g_tin (tgt := 880) C dL_law_43 (by omega) (by omega) rfl rfl ?_
      exact lc_periodText LX h5 hI (by omega) (by omega) (J h5)
    · subst q
      refine g_tin (tgt := 908) C dL_law_43 (by omega) (by omega) rfl rfl ?_
      exact lc_solution LX h5 hI (by omega) (by omega) (J h5)
    · subst q
      refine g_tin (tgt := 964) C dL_law_43 (by omega) (by omega) rfl rfl ?_
      exact lc_minus LX h5 hI (by omega) (by omega) (J h5)
    · subst q
      refine g_tin (tgt := 1020) C dL_law_43 (by omega) (by omega) rfl rfl ?_
      exact lc_middle LX h5 hI (by omega) (by omega) (J h5)
    · subst q
      refine g_tin (tgt := 1048) C dL_law_43 (by omega) (by omega) rfl rfl ?_
      exact lc_put LX h5 hI (by omega) (by omega) (J h5)
    · subst q
      refine g_tin (tgt := 1112) C dL_law_43 (by omega) (by omega) rfl rfl ?_
      exact lc_take LX h5 hI (by omega) (by omega) (J h5)
    · subst q
      refine g_tin (tgt := 1152) C dL_law_43 (by omega) (by omega) rfl rfl ?_
      exact lc_least LX h5 hI (by omega) (by omega) (J h5)
    · subst q
      refine g_tin (tgt := 1192) C dL_law_43 (by omega) (by omega) rfl rfl ?_
      exact lc_compose LX h5 hI (by omega) (by omega) (J h5)
    · subst q
      refine g_tin (tgt := 1244) C dL_law_43 (by omega) (by omega) rfl rfl ?_
      exact lc_power LX h5 hI (by omega) (by omega) (J h5)
    · subst q
      refine g_tin (tgt := 1284) C dL_law_43 (by omega) (by omega) rfl rfl ?_
      exact lc_mirror LX h5 hI (by omega) (by omega) (J h5)
    · subst q
      refine g_tin (tgt := 1369) C dL_law_43 (by omega) (by omega) rfl rfl ?_
      exact lc_divideBy LX h5 hI (by omega) (by omega) (J h5)
    · subst q
      refine g_tin (tgt := 1409) C dL_law_43 (by omega) (by omega) rfl rfl ?_
      exact lc_pairCopy LX h5 hI (by omega) (by omega) (J h5)
    · subst q
      refine g_tin (tgt := 1449) C dL_law_43 (by omega) (by omega) rfl rfl ?_
      exact lc_pairBase LX h5 hI (by omega) (by omega) (J h5)
    · subst q
      refine g_tin (tgt := 1477) C dL_law_43 (by omega) (by omega) rfl rfl ?_
      exact lc_pairText LX h5 hI (by omega) (by omega) (J h5)
    · subst q
      refine g_tin (tgt := 1533) C dL_law_43 (by omega) (by omega) rfl rfl ?_
      exact lc_pairNorm LX h5 hI (by omega) (by omega) (J h5)
    · subst q
      refine g_tin (tgt := 1561) C dL_law_43 (by omega) (by omega) rfl rfl ?_
      exact lc_pairBits LX h5 hI (by omega) (by omega) (J h5)
    · subst q
      refine g_tin (tgt := 1629) C dL_law_43 (by omega) (by omega) rfl rfl ?_
      exact lc_rank LX h5 hI (by omega) (by omega) (J h5)
    · subst q
      refine g_tin (tgt := 1657) C dL_law_43 (by omega) (by omega) rfl rfl ?_
      exact lc_order LX h5 hI (by omega) (by omega) (J h5)
    · subst q
      refine g_tin (tgt := 1725) C dL_law_43 (by omega) (by omega) rfl rfl ?_
      exact lc_isSame LX h5 hI (by omega) (by omega) (J h5)
    · subst q
      refine g_tin (tgt := 1765) C dL_law_43 (by omega) (by omega) rfl rfl ?_
      exact lc_extreme LX h5 hI (by omega) (by omega) (J h5)
    · subst q
      refine g_tin (tgt := 1834) C dL_law_43 (by omega) (by omega) rfl rfl ?_
      exact lc_split LX h5 hI (by omega) (by omega) (J h5)
    · subst q
      refine g_tin (tgt := 1874) C dL_law_43 (by omega) (by omega) rfl rfl ?_
      exact lc_euclid LX h5 hI (by omega) (by omega) (J h5)
    · subst q
      refine g_tin (tgt := 1902) C dL_law_43 (by omega) (by omega) rfl rfl ?_
      exact lc_settle LX h5 hI (by omega) (by omega) (J h5)
    · subst q
      refine g_tin (tgt := 1930) C dL_law_43 (by omega) (by omega) rfl rfl ?_
      exact lc_splitNumber LX h5 hI (by omega) (by omega) (J h5)
    · subst q
      refine g_tin (tgt := 1970) C dL_law_43 (by omega) (by omega) rfl rfl ?_
      exact lc_way LX h5 hI (by omega) (by omega) (J h5)
    · subst q
      refine g_tin (tgt := 1998) C dL_law_43 (by omega) (by omega) rfl rfl ?_
      exact lc_product LX h5 hI (by omega) (by omega) (J h5)
    · subst q
      refine g_tin (tgt := 2038) C dL_law_43 (by omega) (by omega) rfl rfl ?_
      exact lc_symbol LX h5 hI (by omega) (by omega) (J h5)
    · subst q
      refine g_tin (tgt := 2078) C dL_law_43 (by omega) (by omega) rfl rfl ?_
      exact lc_inverse LX h5 hI (by omega) (by omega) (J h5)
    · subst q
      refine g_tin (tgt := 2118) C dL_law_43 (by omega) (by omega) rfl rfl ?_
      exact lc_isPrime LX h5 hI (by omega) (by omega) (J h5)
    · subst q
      refine g_tin (tgt := 2146) C dL_law_43 (by omega) (by omega) rfl rfl ?_
      exact lc_house LX h5 hI (by omega) (by omega) (J h5)
    · subst q
      refine g_tin (tgt := 2174) C dL_law_43 (by omega) (by omega) rfl rfl ?_
      exact lc_knock LX h5 hI (by omega) (by omega) (J h5)
    · subst q
      refine g_tin (tgt := 2187) C dL_law_43 (by omega) (by omega) rfl rfl ?_
      exact lc_isSound LX h5 hI (by omega) (by omega) (J h5)
    · subst q
      refine g_tin (tgt := 2200) C dL_law_43 (by omega) (by omega) rfl rfl ?_
      exact lc_digest LX h5 hI (by omega) (by omega) (J h5)
    · refine g_tout (tgt := 2213) C dL_law_43 (by omega) (by omega) rfl ?_
      exact g_widen (by omega) (by omega) (J h5 w hI.up)
theorem law_loop {K : KC} {E : GE} {X : XT} {b N : Nat} {f : Nat → Int} (LX : LawX K E X b N f) (hend : ∀ (L' : List (Option Value)) (w : Wd) (k n : Nat), k ≤ 929463 → n ≤ 6313092 → G E X 7 2220 L' [iI 1] w k n) {x m o k n : Nat} (hk : k + 2000 * 64 ≤ 929463) (hn : n + 80000 * 64 ≤ 6313092) : ∀ (r t : Nat) (w : Wd), N < 5 * (t + r) + 5 → 5 * t ≤ N → INV x m o t w → G E X 7 27 (LL b x m o t) [] w (k + 2000 * t) (n + 80000 * t) := by
  intro r
  have hN := LX.2.2.2.2.2.2.2.2.2
  induction r with
  | zero =>
    intro t w h1 h2 h3
    exact law_step LX hend h2 h3 ⟨by omega, by omega⟩ (fun h => by omega) (fun h => by omega)
  | succ r ih =>
    intro t w h1 h2 h3
    refine law_step LX hend h2 h3 ⟨by omega, by omega⟩ (fun h => ⟨by omega, by omega⟩) (fun h w' h' => ?_)
    exact g_widen (by omega) (by omega) (ih (t + 1) w' (by omega) (by omega) h')
set_option maxHeartbeats 4000000 in
set_option maxRecDepth 100000 in
theorem s_X7_init (l : Launch) {K : KC} {E : GE} {w : Wd} {a : Nat} {fs : List Value} (hO : w.2 a = some (true, eO 9 fs)) : St K E l yX7_init cX7_init 1 none 1 (0) (0) [.ref a] w (fun r' w' => r' = none ∧ w' = w) := by
  refine st_intro [some (.ref a)] rfl (Nat.le_of_ble_eq_true rfl) pn_X7 ?_
  intro X C hT hRm hl hnm hQ
  obtain ⟨hRf, hRl, hRc, hRs⟩ := hRm
  refine g_wf (fun hwf => ?_)
  refine g_aload_n C dX7_init_0 rfl ?_
  refine g_objInit C ml_RX7_1 (by omega) (by omega) (Nat.le_of_ble_eq_true rfl) dX7_init_1 ?_
  exact g_return C hQ dX7_init_4 (Nat.le_refl _) (Nat.le_refl _) ⟨rfl, rfl⟩
set_option maxHeartbeats 4000000 in
set_option maxRecDepth 100000 in
theorem law_body {K : KC} {E : GE} {X : XT} {b N : Nat} {f : Nat → Int} (LX : LawX K E X b N f) (hend : ∀ (L' : List (Option Value)) (w : Wd) (k n : Nat), k ≤ 929463 → n ≤ 6313092 → G E X 7 2220 L' [iI 1] w k n) {w : Wd} : G E X 7 0 [some (.ref b), none, none, none, none, none, none] [] w 0 0 := by
  obtain ⟨C, hT, hH, hls, ⟨hRf, hRl, hRc, hRs⟩, hS⟩ := id LX
  have hN := hS.2.2.2.2
  refine g_wf (fun hwf => ?_)
  refine g_new (ci := 8) C rfl inTX6 tyX6 tyX6_ok kl_RL_8 ib_RX6 in_RX6 (fs := [.null, .null, .null, .null, .null, .null, .null, .null, .null, .null, iI 0, iI 0, iI 0, iI 0, iI 0]) (by intro j hj; repeat (first | rfl | (cases j; rfl) | (rename_i j; cases j; rfl) | omega)) (by omega) dL_law_0 ?_
  refine g_gen (fun u1 hu1 => ?_)
  have nu1 : u1.1 = w.1 + 1 := by rw [hu1]; rfl
  have eu1 : u1.2 w.1 = some (true, eO 8 [.null, .null, .null, .null, .null, .null, .null, .null, .null, .null, iI 0, iI 0, iI 0, iI 0, iI 0]) := by rw [hu1]; exact wpush_s
  clear hu1
  refine g_dup C dL_law_3 rfl ?_
  refine t_callI C hT (s_X6_init _ eu1 (τ := fun _ => 0)) ml_RL_169 im_yX6_init in_RX6 co_yX6_init rfl hd_X6_init rfl ⟨by omega, by omega⟩ rfl (Nat.le_of_ble_eq_true rfl) ⟨by omega, by omega⟩ dL_law_4 (fun v4 w4 hp4 => ?_)
  obtain ⟨hv4, nu2, hC2, -⟩ := hp4
  subst hv4
  refine g_wf (fun f4 => ?_)
  refine g_astore_n C dL_law_7 (by decide) rfl ?_
  refine g_new (ci := 10) C rfl inTX8 tyX8 tyX8_ok kl_RL_170 ib_RX8 in_RX8 (fs := [iI 0, .null, .null, .null, .null, .null, .null, .null]) (by intro j hj; repeat (first | rfl | (cases j; rfl) | (rename_i j; cases j; rfl) | omega)) (by omega) dL_law_8 ?_
  refine g_gen (fun u5 hu5 => ?_)
  have nu5 : u5.1 = w4.1 + 1 := by rw [hu5]; rfl
  have eu5 : u5.2 w4.1 = some (true, eO 10 [iI 0, .null, .null, .null, .null, .null, .null, .null]) := by rw [hu5]; exact wpush_s
  have xu5 : ∀ a x, w4.2 a = some x → u5.2 a = some x := by rw [hu5]; exact (Ex.push f4 _).2
  refine g_wf (fun f5 => ?_)
  obtain ⟨τ3, ad3, hτ3, hx3, hC3⟩ := cs_mark (m := w4.1) (w' := u5) hC2 f4 1 (Nat.le_refl _) (by omega) xu5
  refine g_dup C dL_law_11 rfl ?_
  refine g_callI C (c_X8_init _ eu5 hτ3) ml_RL_172 im_yX8_init in_RX8 co_yX8_init rfl hd_X8_init rfl ⟨by omega, by omega⟩ rfl (Nat.le_of_ble_eq_true rfl) ⟨by omega, by omega⟩ dL_law_12 (fun v12 w12 hp12 => ?_)
  obtain ⟨τ4, A, ba, st, pm, le, ri, sp, cm, hv12, ht4, hM4, hk4, hi4, hc4, nu12⟩ := hp12
  subst hv12
  refine g_wf (fun f12 => ?_)
  refine g_astore_n C dL_law_15 (by decide) rfl ?_
  refine g_new (ci := 9) C rfl inTX7 tyX7 tyX7_ok kl_RL_14 ib_RX7 in_RX7 (fs := [jJ 0, .null]) (by intro j hj; repeat (first | rfl | (cases j; rfl) | (rename_i j; cases j; rfl) | omega)) (by omega) dL_law_16 ?_
  refine g_gen (fun u16 hu16 => ?_)
  have nu16 : u16.1 = w12.1 + 1 := by rw [hu16]; rfl
  have eu16 : u16.2 w12.1 = some (true, eO 9 [jJ 0, .null]) := by rw [hu16]; exact wpush_s
  have xu16 : ∀ a x, w12.2 a = some x → u16.2 a = some x := by rw [hu16]; exact (Ex.push f12 _).2
  refine g_dup C dL_law_19 rfl ?_
  refine t_nI C hT (s_X7_init _ eu16) 8 rfl im_yX7_init in_RX7 co_yX7_init rfl hd_X7_init rfl ⟨by omega, by omega⟩ rfl (Nat.le_of_ble_eq_true rfl) ⟨by omega, by omega⟩ dL_law_20 (fun v20 w20 hp20 => ?_)
  obtain ⟨hv20, hw20⟩ := hp20
  subst hv20
  subst hw20
  have hI0 := inv_0 (w' := w20) f5 f12 hC3 hk4 ht4 hM4 hi4 hc4 nu16 xu16 eu16
  rw [hx3] at hI0
  refine g_astore_n C dL_law_23 (by decide) rfl ?_
  refine g_iconst C dL_law_24 ?_
  refine g_istore C dL_law_25 (by decide) rfl ?_
  exact g_widen (k' := 1000 + 2000 * 0) (n' := 5000 + 80000 * 0) (by omega) (by omega) (law_loop LX hend (k := 1000) (n := 5000) (by omega) (by omega) N 0 _ (by omega) (by omega) hI0)
