theorem bt_full : ∀ n, n ≤ 10 → ∀ i, i < 32 → bt ((1 <<< (nI n &&& 31)) - 1) i = decide (i < n) := by decide +kernel
section CRING
variable {σ : Sg} {kd : Nat → Int32} {gr : Nat → Int64} {cv br hz fm dm e1 e2 fk : Nat → Int32} {pn fn : Int32}
theorem c_ring (hV : VS σ) (hR : RC σ kd gr cv br hz fm dm e1 e2 fk pn fn) {k : Int32} {post : Int32 → Unit → Prop} (h : post (pick (fun i => !bt (rd σ (-1) 10) i) k (nP σ) 0 0) ()) : wp_X5_ring cv br pn k post := by
  have hn := hV.n10
  unfold wp_X5_ring wp_X1_neverComingOff
  refine c_comingOff hV hR ?_
  refine c_memberOf (S := fun i => decide (i < nP σ) && !bt (rd σ (-1) 10) i) ?_ ?_
  · intro i hi
    rw [hR.1, b_and, bt_full _ hn i (by omega), b_not _ (by omega)]
  · rw [pick_10 (S' := fun i => !bt (rd σ (-1) 10) i) hn (fun i hi => by simp [hi]) (fun i h1 h2 => by simp; omega)]
    exact h
theorem c_before (hV : VS σ) (hR : RC σ kd gr cv br hz fm dm e1 e2 fk pn fn) {p k : Int32} {post : Int32 → Unit → Prop}
    (h1 : ∀ i, i < nP σ → p = nI i → bt (rd σ (-1) 10) i = true → post (pick (fun q => decide (q ≠ i) && !bt (rd σ (nI q) 10) i) k (nP σ) 0 0) ())
    (h0 : (¬ ∃ i, i < nP σ ∧ p = nI i ∧ bt (rd σ (-1) 10) i = true) → post (-1) ()) : wp_X5_before cv br pn p k post := by
  have hn := hV.n10
  have hz : (¬ ∃ i, i < nP σ ∧ p = nI i ∧ bt (rd σ (-1) 10) i = true) → wp_X5_memberOf 0 k (fun r_2 _ => post r_2 ()) := by
    intro e
    refine c_memberOf (S := fun _ => false) (fun i _ => b_0 i) ?_
    rw [pick_none 10 0 0 (fun _ _ _ => rfl)]
    exact h0 e
  unfold wp_X5_before wp_X1_mustComeOffBefore
  intro A26 c26
  have e1 := hR.1
  rw [e1]
  refine k_has _ (by omega) (fun i hi ea => y1 ?_) (fun e => y0 (hz ?_))
  · subst ea
    rw [← e1]
    refine c_comingOff hV hR ?_
    refine c_contains (by omega) (fun e => y1 ?_) (fun e => y0 (hz ?_))
    · have inner := up (P := fun j => A26 (acc (fun q => decide (q ≠ i) && !bt (rd σ (nI q) 10) i) j) (nI j)) (m := 0) (n := nP σ) (by omega) ?_ ?_
      · exact inner
      · refine c26 _ _ ?_
        rw [e1]
        refine ye_ (nI_le (by omega) (by omega)) ?_
        refine c_memberOf (S := fun j => decide (j < nP σ) && (decide (j ≠ i) && !bt (rd σ (nI j) 10) i)) (fun j hj => acc_at hn hj) ?_
        rw [pick_10 (S' := fun q => decide (q ≠ i) && !bt (rd σ (nI q) 10) i) hn (fun j hj => by simp [hj]) (fun j h1 h2 => by simp; omega)]
        exact h1 i hi rfl e
      · intro j _ hj ih
        refine c26 _ _ ?_
        rw [e1]
        refine no_ (nI_ge hj (by omega)) ⟨fun e => ?_, fun e => ?_⟩
        · rw [nI_eq (by omega) (by omega)] at e
          rw [acc_0 (by simp [e])] at ih
          rw [nI_1]; exact ih
        · rw [nI_eq (by omega) (by omega)] at e
          rw [← e1]
          refine c_comingOff hV hR ?_
          refine c_contains (by omega) (fun q => y1 ?_) (fun q => y0 ?_)
          · rw [acc_0 (by simp [q])] at ih
            rw [nI_1]; exact ih
          · rw [acc_1 (by simp [q, e])] at ih
            rw [nI_1]; exact ih
    · rintro ⟨i', q1, q2, q3⟩
      rw [nI_eq (by omega) (by omega)] at q2
      subst q2
      rw [e] at q3; cases q3
  · rintro ⟨i', q1, q2, q3⟩
    exact e ⟨i', q1, q2⟩
end CRING
