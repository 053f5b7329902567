section RMAKE
variable {σ : Sg} {f : Nat} {mp mg mc mw mf mt mh mm md mk' : Nat → Int32}
theorem ixF (f i : Nat) : (60 * nI f) + (3 * nI i) = nI (60 * f + 3 * i) := by
  have := ix3 60 3 f i 0
  rw [show (60 : Int32) = nI 60 from rfl, show (3 : Int32) = nI 3 from rfl, pk_mul, pk_mul, nI_add]
theorem ixF1 (f i : Nat) : ((60 * nI f) + (3 * nI i)) + 1 = nI (60 * f + 3 * i + 1) := by rw [ixF, nI_1]
theorem ixF2 (f i : Nat) : ((60 * nI f) + (3 * nI i)) + 2 = nI (60 * f + 3 * i + 2) := by rw [ixF, show (2 : Int32) = nI 2 from rfl, nI_add]
set_option maxHeartbeats 1000000 in
theorem r_make (hf : f < 2) (hR : RM σ f mp mk' mg mc mw mf mt mh mm md) (hV : VS σ) {k : Nat} (hk : k < 7) {a b c : Int32} (hal : al σ k a b c) {post : ((Nat → Int32) × (Nat → Int32) × (Nat → Int32) × (Nat → Int32) × (Nat → Int32) × (Nat → Int32) × (Nat → Int32) × (Nat → Int32) × (Nat → Int32) × (Nat → Int32)) → Prop}
    (h : ∀ mp2 mk2 mg2 mc2 mw2 mf2 mt2 mh2 mm2 md2, RM (mk σ k a b c) f mp2 mk2 mg2 mc2 mw2 mf2 mt2 mh2 mm2 md2 → (∀ f', KP f f' mp mk' mg mc mw mf mt mh mm md mp2 mk2 mg2 mc2 mw2 mf2 mt2 mh2 mm2 md2) → post (mp2, mk2, mg2, mc2, mw2, mf2, mt2, mh2, mm2, md2)) : wp_X6_make mp mk' mg mc mw mf mt mh mm md (nI f) (nI k) a b c post := by
  have hn := hV.n10
  have hff := hV.f20
  obtain ⟨r1, r2, r3, r4, r5, r6, r7, r8⟩ := hR
  unfold wp_X6_make
  match k, hk, hal, h with
  | 0, _, hal, h =>
    obtain ⟨hlt, ⟨i, hi, rfl⟩, g, hg, rfl⟩ := hal
    refine ye_ (by decide) ?_
    have hv : vp_in (nI f) 2 := vp_in_nI hf (by omega)
    rw [nI_clamp (show f < 2 ^ 31 by omega), r1, ixT, nI_clamp (show 10 * f + nP σ < 2 ^ 31 by omega), nI_1]
    refine ⟨hv, vp_in_nI (by omega) (by omega), hv, vp_in_nI (by omega) (by omega), hv, hv, ?_⟩
    refine h _ _ _ _ _ _ _ _ _ _ ⟨pk_us, r2, ?_, r4, r5, r6, r7, r8⟩ ?_
    · intro p hp
      have hp' : p < nP σ + 1 := hp
      by_cases hpn : p = nP σ
      · subst hpn
        rw [pk_us, pk_us]
        refine ⟨congrArg nI ?_, congrArg nI ?_⟩
        · simp [mk, sN, pl_n (show i < 2 ^ 31 by omega)]
        · simp [mk, sN, pl_n (show g < 2 ^ 31 by omega)]
      · rw [pk_un (by omega), pk_un (by omega)]
        have := r3 p (by omega)
        simp [mk, sN, hpn]; exact this
    · intro f' hne hf'
      refine ⟨pk_un hne, rfl, fun p hp => ⟨pk_un (by omega), pk_un (by omega), rfl, rfl⟩, fun _ _ => rfl, fun _ _ => rfl, fun _ _ => rfl, fun _ _ => rfl⟩
  | 1, _, hal, h =>
    obtain ⟨i, j, hi, hj, rfl, rfl, ne, hb⟩ := hal
    refine no_ (by decide) (ye_ (by decide) ?_)
    rw [ixC, nI_clamp (show 100 * f + 10 * i + j < 2 ^ 31 by omega), na1]
    refine ⟨vp_in_nI (by omega) (by omega), ?_⟩
    refine h _ _ _ _ _ _ _ _ _ _ ⟨r1, r2, r3, ?_, ?_, ?_, r7, r8⟩ ?_
    · intro x y hx hy
      by_cases hxy : x = i ∧ y = j
      · obtain ⟨rfl, rfl⟩ := hxy
        rw [pk_us]
        simp [mk, sB, pl_n (show x < 2 ^ 31 by omega), pl_n (show y < 2 ^ 31 by omega), bI]
      · rw [pk_un (by omega), r4 x y hx hy]
        congr 1
        simp [mk, sB, pl_n (show i < 2 ^ 31 by omega), pl_n (show j < 2 ^ 31 by omega)]
        intro e1 e2; exact absurd ⟨e1, e2⟩ hxy
    · intro d p q hd hp hq
      rw [r5 d p q hd hp hq]
      simp [mk, sB]
    · intro p q hp hq
      rw [r6 p q hp hq]
      simp [mk, sB]
    · intro f' hne hf'
      exact ⟨rfl, rfl, fun p hp => ⟨rfl, rfl, rfl, rfl⟩, fun _ _ => pk_un (by omega), fun _ _ => rfl, fun _ _ => rfl, fun _ _ => rfl⟩
  | 2, _, hal, h =>
    obtain ⟨i, d, j, hi, hd, hj, rfl, rfl, rfl, ne, hb⟩ := hal
    refine no_ (by decide) (no_ (by decide) (ye_ (by decide) ?_))
    unfold wp_X6_wayAt
    rw [ixW]
    show vp_in (nI (600 * f + 100 * d + 10 * i + j)) 1200 ∧ post (mp, mk', mg, mc, upd mw (nI (600 * f + 100 * d + 10 * i + j)).toNatClampNeg (vp_nar FieldType.boolean 1), mf, mt, mh, mm, md)
    rw [nI_clamp (show 600 * f + 100 * d + 10 * i + j < 2 ^ 31 by omega), na1]
    refine ⟨vp_in_nI (by omega) (by omega), ?_⟩
    refine h _ _ _ _ _ _ _ _ _ _ ⟨r1, r2, r3, ?_, ?_, ?_, r7, r8⟩ ?_
    · intro x y hx hy
      rw [r4 x y hx hy]
      simp [mk, sB]
    · intro d' p q hd' hp hq
      by_cases hxy : d' = d ∧ p = i ∧ q = j
      · obtain ⟨rfl, rfl, rfl⟩ := hxy
        rw [pk_us]
        simp [mk, sB, pl_n (show p < 2 ^ 31 by omega), pl_n (show q < 2 ^ 31 by omega), pl_n (show d' < 2 ^ 31 by omega), bI]
      · rw [pk_un (by omega), r5 d' p q hd' hp hq]
        congr 1
        simp [mk, sB, pl_n (show i < 2 ^ 31 by omega), pl_n (show j < 2 ^ 31 by omega), pl_n (show d < 2 ^ 31 by omega)]
        intro e1 e2 e3; exact absurd ⟨e1, e2, e3⟩ hxy
    · intro p q hp hq
      rw [r6 p q hp hq]
      congr 1
      simp [mk, sB, pl_n (show d < 2 ^ 31 by omega)]
      intro e; omega
    · intro f' hne hf'
      exact ⟨rfl, rfl, fun p hp => ⟨rfl, rfl, rfl, rfl⟩, fun _ _ => rfl, fun _ _ => pk_un (by omega), fun _ _ => rfl, fun _ _ => rfl⟩
  | 3, _, hal, h =>
    obtain ⟨hlt, i, j, g, hi, hj, hg, rfl, rfl, rfl, ne⟩ := hal
    refine no_ (by decide) (no_ (by decide) (no_ (by decide) (ye_ (by decide) ?_)))
    have hv : vp_in (nI f) 2 := vp_in_nI hf (by omega)
    rw [nI_clamp (show f < 2 ^ 31 by omega), r2, ixF1, ixF2, ixF, nI_clamp (show 60 * f + 3 * nF σ < 2 ^ 31 by omega), nI_clamp (show 60 * f + 3 * nF σ + 1 < 2 ^ 31 by omega), nI_clamp (show 60 * f + 3 * nF σ + 2 < 2 ^ 31 by omega), nI_1]
    refine ⟨hv, vp_in_nI (by omega) (by omega), hv, vp_in_nI (by omega) (by omega), hv, vp_in_nI (by omega) (by omega), hv, hv, ?_⟩
    refine h _ _ _ _ _ _ _ _ _ _ ⟨r1, pk_us, ?_, r4, r5, r6, ?_, ?_⟩ ?_
    · intro p hp
      have := r3 p hp
      simp [mk, sN]; exact this
    · intro p hp
      have := r7 p hp
      simp [mk, sN]; exact this
    · intro q hq
      have hq' : q < nF σ + 1 := hq
      by_cases hqn : q = nF σ
      · subst hqn
        rw [pk_un (by omega), pk_un (by omega), pk_us, pk_un (by omega), pk_us, pk_us]
        simp [mk, sN, pl_n (show i < 2 ^ 31 by omega), pl_n (show g < 2 ^ 31 by omega), pl_n (show j < 2 ^ 31 by omega)]
      · rw [pk_un (by omega), pk_un (by omega), pk_un (by omega), pk_un (by omega), pk_un (by omega), pk_un (by omega), pk_un (by omega), pk_un (by omega), pk_un (by omega)]
        have := r8 q (by omega)
        simp [mk, sN, hqn]; exact this
    · intro f' hne hf'
      refine ⟨rfl, pk_un hne, fun p hp => ⟨rfl, rfl, rfl, rfl⟩, fun _ _ => rfl, fun _ _ => rfl, fun _ _ => rfl, fun _ _ => ?_⟩
      rw [pk_un (by omega), pk_un (by omega), pk_un (by omega)]
  | 4, _, hal, h =>
    obtain ⟨i, j, hi, hj, rfl, rfl, hb⟩ := hal
    refine no_ (by decide) (no_ (by decide) (no_ (by decide) (no_ (by decide) (ye_ (by decide) ?_))))
    rw [ixH, nI_clamp (show 80 * f + 8 * i + j < 2 ^ 31 by omega), na1]
    refine ⟨vp_in_nI (by omega) (by omega), ?_⟩
    refine h _ _ _ _ _ _ _ _ _ _ ⟨r1, r2, r3, ?_, ?_, ?_, r7, r8⟩ ?_
    · intro x y hx hy
      rw [r4 x y hx hy]
      simp [mk, sB]
    · intro d p q hd hp hq
      rw [r5 d p q hd hp hq]
      congr 1
      simp [mk, sB]
      intro e; omega
    · intro x y hx hy
      by_cases hxy : x = i ∧ y = j
      · obtain ⟨rfl, rfl⟩ := hxy
        rw [pk_us]
        simp [mk, sB, pl_n (show x < 2 ^ 31 by omega), pl_n (show y < 2 ^ 31 by omega), bI]
      · rw [pk_un (by omega), r6 x y hx hy]
        congr 1
        simp [mk, sB, pl_n (show i < 2 ^ 31 by omega), pl_n (show j < 2 ^ 31 by omega)]
        intro e1 e2; exact absurd ⟨e1, e2⟩ hxy
    · intro f' hne hf'
      exact ⟨rfl, rfl, fun p hp => ⟨rfl, rfl, rfl, rfl⟩, fun _ _ => rfl, fun _ _ => rfl, fun _ _ => pk_un (by omega), fun _ _ => rfl⟩
  | 5, _, hal, h =>
    obtain ⟨i, j, hi, hj, rfl, rfl, hb⟩ := hal
    refine no_ (by decide) (no_ (by decide) (no_ (by decide) (no_ (by decide) (no_ (by decide) (ye_ (by decide) ?_)))))
    rw [ixT, nI_clamp (show 10 * f + i < 2 ^ 31 by omega)]
    refine ⟨vp_in_nI (by omega) (by omega), ?_⟩
    refine h _ _ _ _ _ _ _ _ _ _ ⟨r1, r2, ?_, r4, r5, r6, ?_, ?_⟩ ?_
    · intro p hp
      have := r3 p hp
      simp [mk, sN]; exact this
    · intro p hp
      by_cases hpi : p = i
      · subst hpi
        rw [pk_us, (r7 p hp).2]
        simp [mk, sN, pl_n (show j < 2 ^ 31 by omega), pl_n (show p < 2 ^ 31 by omega), nI_pred]
      · rw [pk_un (by omega)]
        have := r7 p hp
        simp [mk, sN, hpi, pl_n (show i < 2 ^ 31 by omega)]; exact this
    · intro q hq
      have := r8 q hq
      simp [mk, sN]; exact this
    · intro f' hne hf'
      exact ⟨rfl, rfl, fun p hp => ⟨rfl, rfl, pk_un (by omega), rfl⟩, fun _ _ => rfl, fun _ _ => rfl, fun _ _ => rfl, fun _ _ => rfl⟩
  | 6, _, hal, h =>
    obtain ⟨i, j, hi, hj, rfl, rfl⟩ := hal
    refine no_ (by decide) (no_ (by decide) (no_ (by decide) (no_ (by decide) (no_ (by decide) (no_ (by decide) ?_)))))
    rw [ixT, nI_clamp (show 10 * f + i < 2 ^ 31 by omega)]
    refine ⟨vp_in_nI (by omega) (by omega), ?_⟩
    refine h _ _ _ _ _ _ _ _ _ _ ⟨r1, r2, ?_, r4, r5, r6, ?_, ?_⟩ ?_
    · intro p hp
      have := r3 p hp
      simp [mk, sN]; exact this
    · intro p hp
      by_cases hpi : p = i
      · subst hpi
        rw [pk_us, (r7 p hp).1]
        simp [mk, sN, pl_n (show j < 2 ^ 31 by omega), pl_n (show p < 2 ^ 31 by omega)]
      · rw [pk_un (by omega)]
        have := r7 p hp
        simp [mk, sN, hpi, pl_n (show i < 2 ^ 31 by omega)]; exact this
    · intro q hq
      have := r8 q hq
      simp [mk, sN]; exact this
    · intro f' hne hf'
      exact ⟨rfl, rfl, fun p hp => ⟨rfl, rfl, rfl, pk_un (by omega)⟩, fun _ _ => rfl, fun _ _ => rfl, fun _ _ => rfl, fun _ _ => rfl⟩
end RMAKE
