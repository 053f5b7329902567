/-! the whole text, told -/
def WA (σ : Sg) (p : Nat) : List Nat := wB 0 ++ (dB (σ.1 1 p) ++ dB (σ.1 2 p))
def WBc (σ : Sg) (p : Nat) : List Nat := fl (fun q => if σ.2 0 p q then pB 1 p q else []) (nP σ)
def WBw (σ : Sg) (p d : Nat) : List Nat := fl (fun q => if σ.2 (d + 1) p q then pB 2 p d ++ dB q else []) (nP σ)
def WBh (σ : Sg) (p : Nat) : List Nat := fl (fun h => if σ.2 7 p h then pB 4 p h else []) 8
def WBo (σ : Sg) (p : Nat) : List Nat := if σ.1 3 p = 0 then [] else pB 5 p (σ.1 3 p - 1)
def WBd (σ : Sg) (p : Nat) : List Nat := if σ.1 4 p = 0 then [] else pB 6 p (σ.1 4 p)
def WB (σ : Sg) (p : Nat) : List Nat := WBc σ p ++ (fl (WBw σ p) 6 ++ (WBh σ p ++ (WBo σ p ++ WBd σ p)))
def WC (σ : Sg) (k : Nat) : List Nat := pB 3 (σ.1 5 k) (σ.1 6 k) ++ dB (σ.1 7 k)
def WW (σ : Sg) : List Nat := fl (WA σ) (nP σ) ++ (fl (WB σ) (nP σ) ++ fl (WC σ) (nF σ))
theorem len0 (lf : Int32) : lf - nI ([] : List Nat).length = lf := Int32.sub_zero lf
section LEN
variable {σ : Sg}
theorem WA_len (hV : VS σ) (p : Nat) : (WA σ p).length ≤ 27 := by
  have := pB_len (k := 0) (by omega) (σ.1 1 p) (σ.1 2 p)
  exact this
theorem WB_len (hV : VS σ) (p : Nat) : (WB σ p).length ≤ 3000 := by
  have hn := hV.n10
  have i1 : (WBc σ p).length ≤ nP σ * 27 := fl_len _ (fun m _ => by
    split
    · exact pB_len (by omega) _ _
    · exact Nat.zero_le _)
  have i2 : ∀ d, (WBw σ p d).length ≤ 10 * 37 := fun d => by
    have : (WBw σ p d).length ≤ nP σ * 37 := fl_len _ (fun m _ => by
      split
      · rw [List.length_append]
        have := pB_len (k := 2) (by omega) p d
        have := dB_len m
        omega
      · exact Nat.zero_le _)
    omega
  have i3 : (fl (WBw σ p) 6).length ≤ 6 * (10 * 37) := fl_len _ (fun m _ => i2 m)
  have i4 : (WBh σ p).length ≤ 8 * 27 := fl_len _ (fun m _ => by
    split
    · exact pB_len (by omega) _ _
    · exact Nat.zero_le _)
  have i5 : (WBo σ p).length ≤ 27 := by
    unfold WBo
    split
    · exact Nat.zero_le _
    · exact pB_len (by omega) _ _
  have i6 : (WBd σ p).length ≤ 27 := by
    unfold WBd
    split
    · exact Nat.zero_le _
    · exact pB_len (by omega) _ _
  unfold WB
  rw [List.length_append, List.length_append, List.length_append, List.length_append]
  omega
theorem WC_len (hV : VS σ) (k : Nat) : (WC σ k).length ≤ 37 := by
  unfold WC
  rw [List.length_append]
  have := pB_len (k := 3) (by omega) (σ.1 5 k) (σ.1 6 k)
  have := dB_len (σ.1 7 k)
  omega
end LEN
section CW
variable {σ : Sg} {kd : Nat → Int32} {gr : Nat → Int64} {cv br hz fm dm e1 e2 fk : Nat → Int32} {pn fn : Int32} {lf fo : Int32}
theorem fl_10 {f : Nat → List Nat} {n : Nat} (hn : n ≤ 10) (h : ∀ m, n ≤ m → m < 10 → f m = []) : fl f 10 = fl f n := by
  have := fl_cut (f := f) (n := n) (10 - n) (fun m h1 h2 => h m h1 (by omega))
  rwa [show n + (10 - n) = 10 by omega] at this
theorem c_coveredBy (hV : VS σ) (hR : RC σ kd gr cv br hz fm dm e1 e2 fk pn fn) {p : Nat} (hp : p < 10) {post : Int32 → Unit → Prop} (h : post (acc (fun q => σ.2 0 p q) (nP σ)) ()) : wp_X1_coveredBy cv pn (nI p) post := by
  have hn := hV.n10
  unfold wp_X1_coveredBy
  intro A4 c4
  have loop := up (P := fun q => A4 (acc (fun q => σ.2 0 p q) q) (nI q)) (m := 0) (n := nP σ) (by omega) ?_ ?_
  · exact loop
  · refine c4 _ _ ?_
    rw [hR.1]
    exact ye_ (nI_le (by omega) (by omega)) h
  · intro q _ hq ih
    refine c4 _ _ ?_
    have hS := (hR.2.2.1 q hq).2.2.1
    rw [hR.1, nI_1, nI_clamp (by omega)]
    refine no_ (nI_ge hq (by omega)) ⟨vp_in_nI (by omega) (by omega), ?_⟩
    refine c_contains (by omega) (fun e => y1 ?_) (fun e => y0 ?_)
    · rw [hS.at hp] at e
      rw [acc_1 e] at ih; exact ih
    · rw [hS.at hp] at e
      rw [acc_0 e] at ih; exact ih
theorem c_tellDetails (hV : VS σ) (hR : RC σ kd gr cv br hz fm dm e1 e2 fk pn fn) {p : Nat} (hp : p < nP σ) {post : (Int32 × Int32) → Prop} (h : post (lf - nI (WB σ p).length, fB lf fo (WB σ p))) : wp_X3_tellDetails lf fo cv br hz fm dm pn (nI p) post := by
  have hn := hV.n10
  have vp : vp_in (nI p) 10 := vp_in_nI (by omega) (by omega)
  obtain ⟨_, _, _, q4, q5, q6, q7⟩ := hR.2.2.1 p hp
  have hf4 := hV.2.2.2.1 p
  unfold wp_X3_tellDetails
  intro A15 c15
  unfold WB at h
  rw [fB_app, fB_app, fB_app, fB_app, ← len_app, ← len_app, ← len_app, ← len_app] at h
  refine c_coveredBy hV hR (by omega) ?_
  refine c_tellEach (S := fun j => decide (j < nP σ) && σ.2 0 p j) (fun j hj => acc_at hn hj) (by omega) (by omega) ?_
  have ec : fl (fun m => if (decide (m < nP σ) && σ.2 0 p m) = true then pB 1 p m else []) 10 = WBc σ p := by
    rw [fl_10 hn (fun m h1 h2 => by simp [show ¬ m < nP σ by omega])]
    exact fl_ext _ (fun m hm => by simp [hm])
  rw [ec]
  refine fl_loop (f := WBw σ p) (n := 6) (A := fun m lf fo => A15 (nI m) lf fo) _ _ ?_ ?_
  · refine c15 _ _ _ (ye_ (nI_le (a := 6) (by omega) (by omega)) ⟨vp, ?_⟩)
    rw [nI_clamp (by omega), q6, q7]
    refine c_tellEach (S := fun j => σ.2 7 p j) (fun j hj => q5.at hj) (by omega) (by omega) ?_
    have eh : fl (fun m => if σ.2 7 p m = true then pB 4 p m else []) 10 = WBh σ p := by
      refine fl_10 (by omega) (fun m h1 h2 => ?_)
      cases hb : σ.2 7 p m
      · rfl
      · have := (hV.2.2.2.2.2.2.2.2 p m hb).2; omega
    rw [eh]
    refine ⟨vp, ?_⟩
    rw [fm_m1 hf4.1]
    have dmg : ∀ lf' fo', post (lf' - nI (WBd σ p).length, fB lf' fo' (WBd σ p)) → ((nI (σ.1 4 p) ≤ 0 → post (lf', fo')) ∧ (¬ nI (σ.1 4 p) ≤ 0 → (vp_in (nI p) 10 ∧ wp_X3_tellPair lf' fo' 6 (nI p) (nI (σ.1 4 p)) (fun u => match u with | (lf_12, fo_13) => post (lf_12, fo_13))))) := by
      intro lf' fo' hh
      unfold WBd at hh
      refine pk_le (σ.1 4 p) 0 (fun g => ?_) (fun g => ⟨vp, ?_⟩)
      · rw [if_pos (by omega), len0] at hh; exact hh
      · rw [if_neg (by omega)] at hh
        exact c_tellPair (by omega) (by omega) (by omega) hh
    refine ⟨fun g => ⟨vp, ?_⟩, fun g => ⟨vp, ?_⟩⟩
    · have eo : WBo σ p = [] := if_pos g
      rw [eo, len0] at h
      exact dmg _ _ h
    · have eo : WBo σ p = pB 5 p (σ.1 3 p - 1) := if_neg g
      rw [eo] at h
      have e2 : nI (σ.1 3 p) - 1 = nI (σ.1 3 p - 1) := pk_sub (b := 1) (by omega)
      rw [e2]
      refine c_tellPair (by omega) (by omega) (by omega) ⟨vp, ?_⟩
      exact dmg _ _ h
  · intro d lf' fo' hd ih
    refine c15 _ _ _ (no_ (nI_ge (b := 6) hd (by omega)) ?_)
    refine c_bar _ _ ⟨vp_in_nI (by omega) (by omega), ?_⟩
    rw [nI_clamp (by omega), nI_1]
    refine c_tellBars (S := fun j => σ.2 (d + 1) p j) (fun j hj => (q4 d hd).at hj) (by omega) (by omega) ?_
    have ew : fl (fun m => if σ.2 (d + 1) p m = true then pB 2 p d ++ dB m else []) 10 = WBw σ p d := by
      refine fl_10 hn (fun m h1 h2 => ?_)
      cases hb : σ.2 (d + 1) p m
      · rfl
      · have := (hV.2.2.2.2.2.2.2.1 d p m hd hb).2; omega
    rw [ew]
    exact ih
theorem stopF (h : lf < 0) {post : (Int32 × Int32) → Prop} (hp : post (lf, fo)) : wp_X3_tellFastenings lf fo e1 e2 fk fn post := by
  unfold wp_X3_tellFastenings
  intro A2 c2
  exact c2 _ _ _ ⟨fun _ => hp, fun _ => ye_ h hp⟩
theorem c_write (hV : VS σ) (hR : RC σ kd gr cv br hz fm dm e1 e2 fk pn fn) {p : Int32} {post : Int32 → (Int32 × Int32) → Prop} (h : ∀ a b, post (fB p (-1) (WW σ)) (a, b)) : wp_X5_write lf fo kd gr cv br hz fm dm e1 e2 fk pn fn p post := by
  have hn := hV.n10
  have hff := hV.f20
  have lA : (fl (WA σ) (nP σ)).length ≤ nP σ * 27 := fl_len _ (fun m _ => WA_len hV m)
  have lB : (fl (WB σ) (nP σ)).length ≤ nP σ * 3000 := fl_len _ (fun m _ => WB_len hV m)
  have lC : (fl (WC σ) (nF σ)).length ≤ nF σ * 37 := fl_len _ (fun m _ => WC_len hV m)
  have lW : (WW σ).length < 100000 := by
    unfold WW
    rw [List.length_append, List.length_append]
    omega
  unfold wp_X5_write wp_X3_byteAt
  intro A23 c23
  rw [hR.1] at c23 ⊢
  refine ⟨fun hp => ?_, fun hp => ?_⟩
  · -- stopped: the rest finds nothing
    have stop : ∀ l1 l2 : List Nat, WW σ = l1 ++ l2 → (p - nI l1.length) < 0 → fB p (-1) l1 = fB p (-1) (WW σ) := by
      intro l1 l2 e hlt
      rw [e, fB_app]
      have : l2.length < 2 ^ 31 := by
        have := congrArg List.length e
        rw [List.length_append] at this
        omega
      exact (fB_neg hlt this).symm
    have sp : ∀ a b : List Nat, (p - nI a.length) - nI b.length = p - nI (a ++ b).length := fun a b => len_app a b
    -- fastenings
    have fas : ∀ l1 : List Nat, WW σ = l1 ++ fl (WC σ) (nF σ) → wp_X3_tellFastenings (p - nI l1.length) (fB p (-1) l1) e1 e2 fk fn (fun u => match u with | (lf_7, fo_8) => (fun r_1 u => match u with | (lf_2, fo_3) => post r_1 (lf_2, fo_3)) fo_8 (lf_7, fo_8)) := by
      intro l1 e
      unfold wp_X3_tellFastenings
      intro A2 c2
      rw [hR.2.1] at c2
      have loop := up (P := fun k => A2 (nI k) (p - nI (l1 ++ fl (WC σ) k).length) (fB p (-1) (l1 ++ fl (WC σ) k))) (m := 0) (n := nF σ) (by omega) ?_ ?_
      · have e0 : l1 ++ fl (WC σ) 0 = l1 := List.append_nil l1
        rw [e0] at loop; exact loop
      · rw [← e]
        exact c2 _ _ _ (ye_ (nI_le (by omega) (by omega)) (h _ _))
      · intro k _ hk ih
        obtain ⟨r1, r2, r3⟩ := hR.2.2.2 k hk
        have hends := hV.2.2.2.2.2.1 k hk
        refine c2 _ _ _ (no_ (nI_ge hk (by omega)) ⟨fun hlt => ?_, fun hlt => ⟨vp_in_nI (by omega) (by omega), vp_in_nI (by omega) (by omega), ?_⟩⟩)
        · have hpre : WW σ = (l1 ++ fl (WC σ) k) ++ (List.drop (fl (WC σ) k).length (fl (WC σ) (nF σ))) := by
            have hd : ∀ d, ∃ r, fl (WC σ) (k + d) = fl (WC σ) k ++ r := by
              intro d
              induction d with
              | zero => exact ⟨[], (List.append_nil _).symm⟩
              | succ d ihd =>
                obtain ⟨r, hr⟩ := ihd
                exact ⟨r ++ WC σ (k + d), by show fl (WC σ) (k + d) ++ WC σ (k + d) = _; rw [hr, List.append_assoc]⟩
            obtain ⟨r, hr⟩ := hd (nF σ - k)
            rw [show k + (nF σ - k) = nF σ by omega] at hr
            rw [e, hr, List.drop_left, List.append_assoc]
          have := stop _ _ hpre hlt
          rw [this]; exact h _ _
        · rw [nI_clamp (by omega), r1, r2, nI_1]
          refine c_tellPair (by omega) (by omega) (by omega) ⟨vp_in_nI (by omega) (by omega), ?_⟩
          rw [r3, nI_l (by omega)]
          refine c_tellNumber (by omega) ?_
          have e1 : l1 ++ fl (WC σ) (k + 1) = (l1 ++ fl (WC σ) k) ++ (pB 3 (σ.1 5 k) (σ.1 6 k) ++ dB (σ.1 7 k)) := by
            show l1 ++ (fl (WC σ) k ++ WC σ k) = _
            rw [← List.append_assoc]; rfl
          rw [e1, fB_app, fB_app, ← len_app, ← len_app] at ih
          exact ih
    have pre : ∀ (f : Nat → List Nat) (n k : Nat), k ≤ n → ∃ r, fl f n = fl f k ++ r := by
      intro f n k hk
      have hd : ∀ d, ∃ r, fl f (k + d) = fl f k ++ r := by
        intro d
        induction d with
        | zero => exact ⟨[], (List.append_nil _).symm⟩
        | succ d ihd =>
          obtain ⟨r, hr⟩ := ihd
          exact ⟨r ++ f (k + d), by show fl f (k + d) ++ f (k + d) = _; rw [hr, List.append_assoc]⟩
      obtain ⟨r, hr⟩ := hd (n - k)
      rw [show k + (n - k) = n by omega] at hr
      exact ⟨r, hr⟩
    -- details
    have det : A23 (nI 0) (p - nI (fl (WA σ) (nP σ)).length) (fB p (-1) (fl (WA σ) (nP σ))) := by
      have loop := up (P := fun k => A23 (nI k) (p - nI (fl (WA σ) (nP σ) ++ fl (WB σ) k).length) (fB p (-1) (fl (WA σ) (nP σ) ++ fl (WB σ) k))) (m := 0) (n := nP σ) (by omega) ?_ ?_
      · have e0 : fl (WA σ) (nP σ) ++ fl (WB σ) 0 = fl (WA σ) (nP σ) := List.append_nil _
        rw [e0] at loop; exact loop
      · refine c23 _ _ _ (ye_ (nI_le (by omega) (by omega)) (fas _ ?_))
        unfold WW; rw [List.append_assoc]
      · intro k _ hk ih
        refine c23 _ _ _ (no_ (nI_ge hk (by omega)) ⟨fun hlt => stopF hlt ?_, fun hlt => ?_⟩)
        · obtain ⟨r, hr⟩ := pre (WB σ) (nP σ) k (by omega)
          have := stop (fl (WA σ) (nP σ) ++ fl (WB σ) k) (r ++ fl (WC σ) (nF σ)) (by unfold WW; rw [hr]; simp [List.append_assoc]) hlt
          rw [this]; exact h _ _
        · rw [← hR.1, nI_1]
          refine c_tellDetails hV hR hk ?_
          have e1 : fl (WA σ) (nP σ) ++ fl (WB σ) (k + 1) = (fl (WA σ) (nP σ) ++ fl (WB σ) k) ++ WB σ k := by
            show _ ++ (fl (WB σ) k ++ WB σ k) = _
            rw [List.append_assoc]
          rw [e1, fB_app, ← len_app] at ih
          exact ih
    -- parts
    unfold wp_X3_tellParts
    intro A2 c2
    have loop := up (P := fun k => A2 (nI k) (p - nI (fl (WA σ) k).length) (fB p (-1) (fl (WA σ) k))) (m := 0) (n := nP σ) (by omega) ?_ ?_
    · have e0 : p - nI (fl (WA σ) 0).length = p := len0 p
      rw [e0] at loop; exact loop
    · exact c2 _ _ _ (ye_ (nI_le (by omega) (by omega)) det)
    · intro k _ hk ih
      obtain ⟨r1, r2, _⟩ := hR.2.2.1 k hk
      have g1 := hV.2.2.1 k hk
      refine c2 _ _ _ (no_ (nI_ge hk (by omega)) ⟨fun hlt => ?_, fun hlt => ?_⟩)
      · obtain ⟨r, hr⟩ := pre (WA σ) (nP σ) k (by omega)
        have := stop (fl (WA σ) k) (r ++ (fl (WB σ) (nP σ) ++ fl (WC σ) (nF σ))) (by unfold WW; rw [hr]; simp [List.append_assoc]) hlt
        rw [this]
        exact c23 _ _ _ ⟨fun _ => stopF hlt (h _ _), fun _ => ye_ hlt (stopF hlt (h _ _))⟩
      · refine c_tellWord (by omega) ⟨vp_in_nI (by omega) (by omega), ?_⟩
        rw [nI_clamp (by omega), r1, nI_l (by omega)]
        refine c_tellNumber (by omega) ⟨vp_in_nI (by omega) (by omega), ?_⟩
        rw [r2, nI_1]
        refine c_tellNumber (by omega) ?_
        have e1 : fl (WA σ) (k + 1) = fl (WA σ) k ++ (wB 0 ++ (dB (σ.1 1 k) ++ dB (σ.1 2 k))) := rfl
        rw [e1, fB_app, fB_app, fB_app, ← len_app, ← len_app, ← len_app] at ih
        exact ih
  · have hneg : p < 0 := by
      rw [Int32.le_iff_toInt_le] at hp
      rw [Int32.lt_iff_toInt_lt]
      omega
    have := h lf fo
    rw [fB_neg hneg (by omega)] at this
    exact this
end CW
