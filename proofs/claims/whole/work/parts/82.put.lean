/-! the reference's writing -/
theorem wa_s (wa w : Int32) : wa - (w + 1) = (wa - w) - 1 := by grind
theorem wa_0 (wa w : Int32) : w = wa ↔ wa - w = 0 := by
  constructor
  · intro e; rw [e]; grind
  · intro e
    have : wa = wa - w + w := by grind
    rw [e] at this
    rw [this]; grind
theorem wa_l (wa w : Int32) (n : Nat) : wa - (w + nI n) = (wa - w) - nI n := by grind
section RPUT
variable {wa w fu : Int32}
theorem r_put {b : Nat} {post : (Int32 × Int32) → Prop} (h : post (w + 1, if wa - w = 0 then nI b else fu)) : wp_X6_put wa w fu (nI b) post := by
  unfold wp_X6_put
  rw [wa_0]
  refine ⟨fun e => ?_, fun e => ?_⟩
  · rw [if_pos e] at h; exact h
  · rw [if_neg e] at h; exact h
theorem w1 (w : Int32) (n : Nat) : (w + 1) + nI n = w + nI (n + 1) := by
  rw [← nI_1]; grind
theorem r_blank {post : (Int32 × Int32) → Prop} (h : post (w + nI 1, fB (wa - w) fu [32])) : wp_X6_put wa w fu 32 post := r_put (b := 32) h
def nD (k j : Nat) : Int64 := Int64.ofNat (nmO k / 256 ^ j)
theorem nD_gt : ∀ k, k < 7 → ∀ j, j < wl k → ¬ (lg_cmp (nD k j) 255) ≤ 0 := by decide +kernel
theorem nD_le : ∀ k, k < 7 → (lg_cmp (nD k (wl k)) 255) ≤ 0 := by decide +kernel
theorem nD_s : ∀ k, k < 7 → ∀ j, j < wl k → nD k j / 256 = nD k (j + 1) := by decide +kernel
theorem nD_b : ∀ k, k < 7 → ∀ i, i < wl k → (((Int64.ofNat (nmO k)) >>> ((8 * nI i).toInt64 &&& 63)) &&& 255).toInt32 = nI (ch k (wl k - 1 - i)) := by decide +kernel
theorem nD_0 : ∀ k, k < 7 → nD k 0 = Int64.ofNat (nmO k) := by decide +kernel
theorem r_putWord {k : Nat} (hk : k < 7) {post : (Int32 × Int32) → Prop} (h : post (w + nI (wB k).length, fB (wa - w) fu (wB k))) : wp_X6_putWord wa w fu (nI k) post := by
  have hw := wl_b k hk
  unfold wp_X6_putWord
  intro A11 A40 c11 c40
  have l2 : ∀ n, n ≤ wl k → ∀ w fu, post (w + nI (wr k n).length, fB (wa - w) fu (wr k n)) → A40 (Int64.ofNat (nmO k)) (nI n + (-1)) w fu := by
    intro n
    induction n with
    | zero =>
      intro _ w fu hp
      refine c40 _ _ _ _ (ye_ (by decide) ?_)
      exact r_blank hp
    | succ n ih =>
      intro hn w fu hp
      rw [pk_m1]
      refine c40 _ _ _ _ (no_ (nI_pos (by omega)) ?_)
      rw [nD_b k hk n (by omega)]
      refine r_put ?_
      refine ih (by omega) _ _ ?_
      rw [w1, wa_s]
      exact hp
  refine r_nameOf hk ?_
  have l1 := up (P := fun j => A11 (Int64.ofNat (nmO k)) (nI j) (nD k j) w fu) (m := 0) (n := wl k) (Nat.zero_le _) ?_ ?_
  · rw [nD_0 k hk] at l1; exact l1
  · refine c11 _ _ _ _ _ (ye_ (nD_le k hk) ?_)
    have := l2 (wl k) (Nat.le_refl _) w fu h
    have e : nI (wl k) + (-1) = nI (wl k) - 1 := by grind
    rw [e] at this; exact this
  · intro j _ hj ih
    refine c11 _ _ _ _ _ (no_ (nD_gt k hk j hj) ⟨by decide, ?_⟩)
    rw [nD_s k hk j hj, nI_1]
    exact ih
theorem r_putNumber {v : Nat} (hv : v < 1000000000) {post : (Int32 × Int32) → Prop} (h : post (w + nI (dB v).length, fB (wa - w) fu (dB v))) : wp_X6_putNumber wa w fu (nI v) post := by
  unfold wp_X6_putNumber
  intro A2 A18 c2 c18
  have l2 : ∀ j, j ≤ 8 → ∀ w fu, post (w + nI (dgl v j).length, fB (wa - w) fu (dgl v j)) → A18 (nI (10 ^ j)) w fu := by
    intro j
    induction j with
    | zero =>
      intro _ w fu hp
      refine c18 _ _ _ (no_ (by decide) ⟨by decide, by decide, ?_⟩)
      have e : nI v / nI (10 ^ 0) = nI (v / 10 ^ 0) := pk_div (by omega) (by decide) (by decide)
      have e1 : nI (v / 10 ^ 0) - nI (v / 10 ^ 0) / 10 * 10 = nI (v / 10 ^ 0 % 10) := pk_rem (d := 10) (by rw [Nat.pow_zero, Nat.div_one]; omega) (by omega) (by omega)
      have e2 : (48 : Int32) + nI (v / 10 ^ 0 % 10) = nI (48 + v / 10 ^ 0 % 10) := nI_add 48 _
      rw [e, e1, e2]
      refine r_put ⟨by decide, ?_⟩
      have e3 : nI (10 ^ 0) / 10 = 0 := by decide
      rw [e3]
      refine c18 _ _ _ (ye_ (by decide) ?_)
      refine r_blank ?_
      rw [w1, wa_s]; exact hp
    | succ j ih =>
      intro hj w fu hp
      have b1 := p10 (show j + 1 ≤ 9 by omega)
      have b2 := p10p (j + 1)
      have b3 := p10p j
      refine c18 _ _ _ (no_ (nI_nle (by omega) (by omega)) ⟨nI_ne0 (by omega) (by omega), by decide, ?_⟩)
      have hd : v / 10 ^ (j + 1) ≤ v := Nat.div_le_self _ _
      have e : nI v / nI (10 ^ (j + 1)) = nI (v / 10 ^ (j + 1)) := pk_div (by omega) (by omega) (by omega)
      have e1 : nI (v / 10 ^ (j + 1)) - nI (v / 10 ^ (j + 1)) / 10 * 10 = nI (v / 10 ^ (j + 1) % 10) := pk_rem (d := 10) (by omega) (by omega) (by omega)
      have e2 : (48 : Int32) + nI (v / 10 ^ (j + 1) % 10) = nI (48 + v / 10 ^ (j + 1) % 10) := nI_add 48 _
      rw [e, e1, e2]
      refine r_put ⟨by decide, ?_⟩
      have e3 : nI (10 ^ (j + 1)) / 10 = nI (10 ^ j) := by
        have : nI (10 ^ (j + 1)) / nI 10 = nI (10 ^ (j + 1) / 10) := pk_div (by omega) (by omega) (by omega)
        rw [Nat.pow_succ, Nat.mul_div_cancel _ (by omega)] at this
        rw [Nat.pow_succ]; exact this
      rw [e3]
      refine ih (by omega) _ _ ?_
      rw [w1, wa_s]; exact hp
  have l1 : ∀ n j, n + j = 8 → nd v = ndf v n j → A2 (nI (10 ^ j)) w fu := by
    intro n
    induction n with
    | zero =>
      intro j hj hn
      have hj8 : j = 8 := by omega
      subst hj8
      have b1 := p10 (show 8 ≤ 9 by omega)
      have b2 := p10p 8
      have hd : v / 10 ^ 8 ≤ 9 := by
        have : v / 10 ^ 8 < 10 := Nat.div_lt_of_lt_mul (by omega)
        omega
      refine c2 _ _ _ ⟨nI_ne0 (by omega) (by omega), ?_⟩
      rw [pk_div (by omega) (by omega) (by omega)]
      refine ye_ (nI_le (b := 9) hd (by omega)) (l2 8 (by omega) w fu ?_)
      have : nd v = 8 := hn
      unfold dB at h; rw [this] at h; exact h
    | succ n ih =>
      intro j hj hn
      have b1 := p10 (show j + 1 ≤ 9 by omega)
      have b2 := p10p j
      have b4 : 10 ^ (j + 1) = 10 ^ j * 10 := Nat.pow_succ ..
      have hd : v / 10 ^ j ≤ v := Nat.div_le_self _ _
      refine c2 _ _ _ ⟨nI_ne0 (by omega) (by omega), ?_⟩
      rw [pk_div (by omega) (by omega) (by omega)]
      have e10 : nI (10 ^ j) * 10 = nI (10 ^ j * 10) := pk_mul _ 10
      rw [e10]
      refine pk_le (v / 10 ^ j) 9 (fun q => ?_) (fun q => ?_)
      · have e : ndf v (n + 1) j = j := if_pos (by omega)
        rw [e] at hn
        refine l2 j (by omega) w fu ?_
        unfold dB at h; rw [hn] at h; exact h
      · have e : ndf v (n + 1) j = ndf v n (j + 1) := if_neg (by omega)
        rw [e] at hn
        have := ih (j + 1) (by omega) hn
        rw [b4] at this; exact this
  exact l1 8 0 rfl rfl
theorem wl_app (l r : List Nat) : (w + nI l.length) + nI r.length = w + nI (l ++ r).length := by
  rw [List.length_append, ← nI_add]; grind
theorem gB_app (l r : List Nat) : fB (wa - w) fu (l ++ r) = fB (wa - (w + nI l.length)) (fB (wa - w) fu l) r := by
  rw [fB_app, wa_l]
theorem r_putTwo {k a b : Nat} (hk : k < 7) (ha : a < 1000000000) (hb : b < 1000000000) {post : (Int32 × Int32) → Prop} (h : post (w + nI (pB k a b).length, fB (wa - w) fu (pB k a b))) : wp_X6_putTwo wa w fu (nI k) (nI a) (nI b) post := by
  unfold wp_X6_putTwo
  refine r_putWord hk ?_
  refine r_putNumber ha ?_
  refine r_putNumber hb ?_
  unfold pB at h
  rw [gB_app, gB_app, ← wl_app, ← wl_app] at h
  exact h
theorem gl_loop {f : Nat → List Nat} {n : Nat} {A : Nat → Int32 → Int32 → Prop} (w fu : Int32) (hend : A n (w + nI (fl f n).length) (fB (wa - w) fu (fl f n))) (hstep : ∀ m w' fu', m < n → A (m + 1) (w' + nI (f m).length) (fB (wa - w') fu' (f m)) → A m w' fu') : A 0 w fu := by
  have := up (P := fun m => A m (w + nI (fl f m).length) (fB (wa - w) fu (fl f m))) (m := 0) (n := n) (Nat.zero_le _) hend (fun m _ hm ih => hstep m _ _ hm (by
    have e1 : fl f (m + 1) = fl f m ++ f m := rfl
    rw [e1, gB_app, ← wl_app] at ih
    exact ih))
  have e : w + nI (fl f 0).length = w := by show w + 0 = w; exact Int32.add_zero w
  rw [e] at this
  exact this
theorem wl0 (w : Int32) : w + nI ([] : List Nat).length = w := Int32.add_zero w
end RPUT
section RW
variable {σ : Sg} {mp mg mc mw mf mt mh mm md mk' : Nat → Int32} {wa w fu : Int32}
theorem r_putPart (hV : VS σ) (hR : RM σ 0 mp mk' mg mc mw mf mt mh mm md) {p : Nat} (hp : p < nP σ) {post : (Int32 × Int32) → Prop} (h : post (w + nI (WB σ p).length, fB (wa - w) fu (WB σ p))) : wp_X6_putPart mp mc mw mh mm md wa w fu (nI p) post := by
  have hn := hV.n10
  have m0 : mp (0 : Int32).toNatClampNeg = nI (nP σ) := hR.1
  have vp : vp_in (nI p) 20 := vp_in_nI (by omega) (by omega)
  have hf4 := hV.2.2.2.1 p
  have r7 := hR.2.2.2.2.2.2.1 p (by omega)
  rw [Nat.mul_zero, Nat.zero_add] at r7
  unfold wp_X6_putPart
  intro A2 A41 A100 A49 c2 c41 c100 c49
  unfold WB at h
  rw [gB_app, gB_app, gB_app, gB_app, ← wl_app, ← wl_app, ← wl_app, ← wl_app] at h
  refine gl_loop (wa := wa) (f := fun q => if σ.2 0 p q then pB 1 p q else []) (n := nP σ) (A := fun m w fu => A2 (nI m) w fu) w fu ?_ ?_
  · refine c2 _ _ _ ⟨pk_in 0 2 (by omega), ?_⟩
    rw [m0]
    refine ye_ (nI_le (by omega) (by omega)) ?_
    refine gl_loop (wa := wa) (f := WBw σ p) (n := 6) (A := fun m w fu => A41 (nI m) w fu) _ _ ?_ ?_
    · refine c41 _ _ _ (ye_ (nI_le (a := 6) (by omega) (by omega)) ?_)
      refine gl_loop (wa := wa) (f := fun h => if σ.2 7 p h then pB 4 p h else []) (n := 8) (A := fun m w fu => A100 (nI m) w fu) _ _ ?_ ?_
      · refine c100 _ _ _ (ye_ (nI_le (a := 8) (by omega) (by omega)) ⟨vp, ?_⟩)
        rw [nI_clamp (by omega), r7.1, r7.2]
        have dmg : ∀ w' fu', post (w' + nI (WBd σ p).length, fB (wa - w') fu' (WBd σ p)) → ((nI (σ.1 4 p) ≤ 0 → post (w', fu')) ∧ (¬ nI (σ.1 4 p) ≤ 0 → (vp_in (nI p) 20 ∧ wp_X6_putTwo wa w' fu' 6 (nI p) (nI (σ.1 4 p)) (fun u => match u with | (lf_12, fo_13) => post (lf_12, fo_13))))) := by
          intro w' fu' hh
          unfold WBd at hh
          refine pk_le (σ.1 4 p) 0 (fun g => ?_) (fun g => ⟨vp, ?_⟩)
          · rw [if_pos (by omega), wl0] at hh; exact hh
          · rw [if_neg (by omega)] at hh
            exact r_putTwo (k := 6) (by omega) (by omega) (by omega) hh
        by_cases g : σ.1 3 p = 0
        · have eo : WBo σ p = [] := if_pos g
          rw [eo, wl0] at h
          refine ye_ (by rw [g]; decide) ⟨vp, ?_⟩
          exact dmg _ _ h
        · have eo : WBo σ p = pB 5 p (σ.1 3 p - 1) := if_neg g
          rw [eo] at h
          have e2 : nI (σ.1 3 p) - 1 = nI (σ.1 3 p - 1) := pk_sub (b := 1) (by omega)
          rw [e2]
          refine no_ (nI_pos (by omega)) ⟨vp, ?_⟩
          refine r_putTwo (k := 5) (by omega) (by omega) (by omega) ⟨vp, ?_⟩
          exact dmg _ _ h
      · intro x w' fu' hx ih
        have i1 : 8 * nI p + nI x = nI (8 * p + x) := ix2 8 p x
        have q1 := hR.2.2.2.2.2.1 p x (by omega) hx
        rw [Nat.mul_zero, Nat.zero_add] at q1
        refine c100 _ _ _ (no_ (nI_ge (b := 8) hx (by omega)) ⟨pk_in (8 * p + x) 160 (by omega) i1, ?_⟩)
        rw [pk_cl _ i1 (by omega), q1, bI0, nI_1]
        refine ⟨fun e => ?_, fun e => ?_⟩
        · rw [if_neg (by rw [e]; exact Bool.false_ne_true), wl0] at ih
          exact ih
        · rw [if_pos (eq_true_of_ne_false e)] at ih
          exact r_putTwo (k := 4) (by omega) (by omega) (by omega) ih
    · intro d w' fu' hd ih
      refine c41 _ _ _ (no_ (nI_ge (b := 6) hd (by omega)) ?_)
      refine gl_loop (wa := wa) (f := fun q => if σ.2 (d + 1) p q then pB 2 p d ++ dB q else []) (n := nP σ) (A := fun m w fu => A49 (nI d) (nI m) w fu) _ _ ?_ ?_
      · refine c49 _ _ _ _ ⟨pk_in 0 2 (by omega), ?_⟩
        rw [m0, nI_1]
        exact ye_ (nI_le (by omega) (by omega)) ih
      · intro q w2 fu2 hq ihq
        have e := ixW0 p d q
        have r5 := hR.2.2.2.2.1 d p q hd (by omega) (by omega)
        rw [Nat.mul_zero, Nat.zero_add] at r5
        refine c49 _ _ _ _ ⟨pk_in 0 2 (by omega), ?_⟩
        rw [m0]
        refine no_ (nI_ge hq (by omega)) ?_
        unfold wp_X6_wayAt
        refine ⟨pk_in (100 * d + 10 * p + q) 1200 (by omega) e, ?_⟩
        rw [pk_cl _ e (by omega), r5, bI0, nI_1]
        refine ⟨fun g => ?_, fun g => ?_⟩
        · rw [if_neg (by rw [g]; exact Bool.false_ne_true), wl0] at ihq
          exact ihq
        · rw [if_pos (eq_true_of_ne_false g), gB_app, ← wl_app] at ihq
          refine r_putTwo (k := 2) (by omega) (by omega) (by omega) ?_
          exact r_putNumber (by omega) ihq
  · intro q w' fu' hq ih
    have e := ixC0 p q
    have r4 := hR.2.2.2.1 p q (by omega) (by omega)
    rw [Nat.mul_zero, Nat.zero_add] at r4
    refine c2 _ _ _ ⟨pk_in 0 2 (by omega), ?_⟩
    rw [m0]
    refine no_ (nI_ge hq (by omega)) ⟨pk_in (10 * p + q) 200 (by omega) e, ?_⟩
    rw [pk_cl _ e (by omega), r4, bI0, nI_1]
    refine ⟨fun g => ?_, fun g => ?_⟩
    · rw [if_neg (by rw [g]; exact Bool.false_ne_true), wl0] at ih
      exact ih
    · rw [if_pos (eq_true_of_ne_false g)] at ih
      exact r_putTwo (k := 1) (by omega) (by omega) (by omega) ih
theorem r_write (hV : VS σ) (hR : RM σ 0 mp mk' mg mc mw mf mt mh mm md) {fa wa0 wr0 fu0 p : Int32} {post : Int32 → (Int32 × Int32 × Int32 × Int32) → Prop} (h : ∀ a b c, post (fB p (-1) (WW σ)) (0, a, b, c)) : wp_X6_write mp mk' mg mc mw mf mt mh mm md fa wa0 wr0 fu0 p post := by
  have hn := hV.n10
  have hff := hV.f20
  have m0 : mp (0 : Int32).toNatClampNeg = nI (nP σ) := hR.1
  have f0 : mf (0 : Int32).toNatClampNeg = nI (nF σ) := hR.2.1
  unfold wp_X6_write
  intro A22 A57 A80 c22 c57 c80
  have hp0 : p - 0 = p := Int32.sub_zero p
  refine gl_loop (wa := p) (f := WA σ) (n := nP σ) (A := fun m w fu => A22 (nI m) 0 p w fu) 0 (-1) ?_ ?_
  · refine c22 _ _ _ _ _ ⟨pk_in 0 2 (by omega), ?_⟩
    rw [m0]
    refine ye_ (nI_le (by omega) (by omega)) ?_
    refine gl_loop (wa := p) (f := WB σ) (n := nP σ) (A := fun m w fu => A57 (nI m) 0 p w fu) _ _ ?_ ?_
    · refine c57 _ _ _ _ _ ⟨pk_in 0 2 (by omega), ?_⟩
      rw [m0]
      refine ye_ (nI_le (by omega) (by omega)) ?_
      refine gl_loop (wa := p) (f := WC σ) (n := nF σ) (A := fun m w fu => A80 (nI m) 0 p w fu) _ _ ?_ ?_
      · refine c80 _ _ _ _ _ ⟨pk_in 0 2 (by omega), ?_⟩
        rw [f0]
        refine ye_ (nI_le (by omega) (by omega)) ?_
        have e : fB p (-1) (WW σ) = fB (p - (0 + nI (fl (WA σ) (nP σ)).length + nI (fl (WB σ) (nP σ)).length)) (fB (p - (0 + nI (fl (WA σ) (nP σ)).length)) (fB (p - 0) (-1) (fl (WA σ) (nP σ))) (fl (WB σ) (nP σ))) (fl (WC σ) (nF σ)) := by
          have e1 : fB p (-1) (WW σ) = fB (p - 0) (-1) (WW σ) := by rw [hp0]
          rw [e1]
          unfold WW
          rw [gB_app, gB_app]
        rw [← e]
        exact h _ _ _
      · intro k w' fu' hk ih
        have hends := hV.2.2.2.2.2.1 k hk
        have r8 := hR.2.2.2.2.2.2.2 k hk
        rw [Nat.mul_zero, Nat.zero_add] at r8
        have a1 : 3 * nI k = nI (3 * k) := pk_mul 3 k
        have a2 : 3 * nI k + 1 = nI (3 * k + 1) := by rw [a1, nI_1]
        have a3 : 3 * nI k + 2 = nI (3 * k + 2) := by rw [a1]; exact nI_add _ 2
        refine c80 _ _ _ _ _ ⟨pk_in 0 2 (by omega), ?_⟩
        rw [f0]
        refine no_ (nI_ge hk (by omega)) ⟨pk_in (3 * k) 120 (by omega) a1, pk_in (3 * k + 1) 120 (by omega) a2, ?_⟩
        rw [pk_cl _ a3 (by omega), pk_cl _ a2 (by omega), pk_cl _ a1 (by omega), r8.1, r8.2.1, r8.2.2, nI_1]
        refine r_putTwo (k := 3) (by omega) (by omega) (by omega) ⟨pk_in (3 * k + 2) 120 (by omega) a3, ?_⟩
        refine r_putNumber (by omega) ?_
        unfold WC at ih
        rw [gB_app, ← wl_app] at ih
        exact ih
    · intro q w' fu' hq ih
      refine c57 _ _ _ _ _ ⟨pk_in 0 2 (by omega), ?_⟩
      rw [m0, nI_1]
      refine no_ (nI_ge hq (by omega)) ?_
      exact r_putPart hV hR hq ih
  · intro q w' fu' hq ih
    have r3 := hR.2.2.1 q hq
    rw [Nat.mul_zero, Nat.zero_add] at r3
    have g1 := hV.2.2.1 q hq
    refine c22 _ _ _ _ _ ⟨pk_in 0 2 (by omega), ?_⟩
    rw [m0, nI_clamp (by omega), r3.1, r3.2, nI_1]
    refine no_ (nI_ge hq (by omega)) ⟨vp_in_nI (by omega) (by omega), vp_in_nI (by omega) (by omega), ?_⟩
    exact r_putTwo (k := 0) (by omega) (by omega) (by omega) ih
end RW
