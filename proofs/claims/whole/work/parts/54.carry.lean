section CCARRY
variable {σ : Sg} {kd : Nat → Int32} {gr : Nat → Int64} {cv br hz fm dm e1 e2 fk : Nat → Int32} {pn fn : Int32}
theorem c_carryOut (hV : VS σ) (hR : RC σ kd gr cv br hz fm dm e1 e2 fk pn fn) {k : Nat} (hk : k < 7) {a b c : Int32} (hal : al σ k a b c) {post : ((Nat → Int32) × (Nat → Int64) × (Nat → Int32) × (Nat → Int32) × (Nat → Int32) × (Nat → Int32) × (Nat → Int32) × (Nat → Int32) × (Nat → Int32) × (Nat → Int32) × Int32 × Int32) → Prop}
    (h : ∀ kd' gr' cv' br' hz' fm' dm' e1' e2' fk' pn' fn', RC (mk σ k a b c) kd' gr' cv' br' hz' fm' dm' e1' e2' fk' pn' fn' → post (kd', gr', cv', br', hz', fm', dm', e1', e2', fk', pn', fn')) : wp_X1_carryOut kd gr cv br hz fm dm e1 e2 fk pn fn k a b c post := by
  unfold wp_X1_carryOut
  refine ⟨hk, hk, ?_⟩
  match k, hk, hal, h with
  | 0, _, hal, h =>
    refine ⟨pk_in 0 7 (by omega), ?_⟩
    refine ye_ (by decide) ?_
    obtain ⟨q1, ⟨i, hi, rfl⟩, g, hg, rfl⟩ := hal
    refine c_addPart hV hR (fun i' g' kd' gr' cv' br' hz' fm' dm' pn' _ p1 p2 p3 p4 hR' => ?_) (fun e => absurd ⟨q1, ⟨i, hi, rfl⟩, g, hg, (i64_al hg).mpr rfl⟩ e)
    rw [nI_eq (by omega) (by omega)] at p3
    rw [i64_al p2, nI_eq (by omega) (by omega)] at p4
    subst p3 p4
    exact h _ _ _ _ _ _ _ _ _ _ _ _ hR'
  | 1, _, hal, h =>
    refine ⟨pk_in 1 7 (by omega), ?_⟩
    refine no_ (by decide) (ye_ (by decide) ?_)
    exact c_addCover hV hR (fun cv' _ hR' => h _ _ _ _ _ _ _ _ _ _ _ _ hR') (fun e => absurd hal e)
  | 2, _, hal, h =>
    refine ⟨pk_in 2 7 (by omega), ?_⟩
    refine no_ (by decide) (no_ (by decide) (ye_ (by decide) ?_))
    exact c_addBar hV hR (fun cv' _ hR' => h _ _ _ _ _ _ _ _ _ _ _ _ hR') (fun e => absurd hal e)
  | 3, _, hal, h =>
    refine ⟨pk_in 3 7 (by omega), ?_⟩
    refine no_ (by decide) (no_ (by decide) (no_ (by decide) (ye_ (by decide) ?_)))
    exact c_addFastening hV hR (fun e1' e2' fk' fn' _ hR' => h _ _ _ _ _ _ _ _ _ _ _ _ hR') (fun e => absurd hal e)
  | 4, _, hal, h =>
    refine ⟨pk_in 4 7 (by omega), ?_⟩
    refine no_ (by decide) (no_ (by decide) (no_ (by decide) (no_ (by decide) (ye_ (by decide) ?_))))
    exact c_addHazard hV hR (fun cv' _ hR' => h _ _ _ _ _ _ _ _ _ _ _ _ hR') (fun e => absurd hal e)
  | 5, _, hal, h =>
    refine ⟨pk_in 5 7 (by omega), ?_⟩
    refine no_ (by decide) (no_ (by decide) (no_ (by decide) (no_ (by decide) (no_ (by decide) (ye_ (by decide) ?_)))))
    exact c_addOption hV hR (fun cv' _ hR' => h _ _ _ _ _ _ _ _ _ _ _ _ hR') (fun e => absurd hal e)
  | 6, _, hal, h =>
    refine ⟨pk_in 6 7 (by omega), ?_⟩
    refine no_ (by decide) (no_ (by decide) (no_ (by decide) (no_ (by decide) (no_ (by decide) (no_ (by decide) ?_)))))
    exact c_setDamage hV hR (fun cv' _ hR' => h _ _ _ _ _ _ _ _ _ _ _ _ hR') (fun e => absurd hal e)
end CCARRY
