/-! variants -/
def cs (S : Nat → Bool) : Nat → Nat
  | 0 => 0
  | n + 1 => cs S n + (if S n then 1 else 0)
theorem cs_1 {S : Nat → Bool} {n : Nat} (h : S n = true) : cs S (n + 1) = cs S n + 1 := by show cs S n + _ = _; rw [if_pos h]
theorem cs_0 {S : Nat → Bool} {n : Nat} (h : S n = false) : cs S (n + 1) = cs S n := by show cs S n + _ = _; rw [if_neg (by rw [h]; exact Bool.false_ne_true)]; rfl
theorem cs_le (S : Nat → Bool) : ∀ n, cs S n ≤ n
  | 0 => Nat.le_refl _
  | n + 1 => by
    have := cs_le S n
    cases h : S n
    · rw [cs_0 h]; omega
    · rw [cs_1 h]; omega
theorem cs_mono (S : Nat → Bool) (m : Nat) : ∀ d, cs S m ≤ cs S (m + d)
  | 0 => Nat.le_refl _
  | d + 1 => by
    have := cs_mono S m d
    show _ ≤ cs S (m + d + 1)
    cases h : S (m + d)
    · rw [cs_0 h]; omega
    · rw [cs_1 h]; omega
theorem cs_lt {S : Nat → Bool} {i j : Nat} (hi : S i = true) (h : i < j) : cs S i < cs S j := by
  have := cs_mono S (i + 1) (j - (i + 1))
  rw [show i + 1 + (j - (i + 1)) = j by omega, cs_1 hi] at this
  omega
theorem cs_inj {S : Nat → Bool} {i j : Nat} (hi : S i = true) (hj : S j = true) (h : cs S i = cs S j) : i = j := by
  rcases Nat.lt_trichotomy i j with g | g | g
  · have := cs_lt hi g; omega
  · exact g
  · have := cs_lt hj g; omega
theorem cs_ex {S : Nat → Bool} {k : Nat} : ∀ n, k < cs S n → ∃ p, p < n ∧ S p = true ∧ cs S p = k
  | 0, h => absurd h (Nat.not_lt_zero _)
  | n + 1, h => by
    cases hs : S n
    · rw [cs_0 hs] at h
      obtain ⟨p, h1, h2⟩ := cs_ex n h
      exact ⟨p, by omega, h2⟩
    · rw [cs_1 hs] at h
      by_cases hk : k < cs S n
      · obtain ⟨p, h1, h2⟩ := cs_ex n hk
        exact ⟨p, by omega, h2⟩
      · exact ⟨n, by omega, hs, by omega⟩
theorem pick_at {S : Nat → Bool} {p : Nat} (hp : S p = true) (hp2 : p < 2 ^ 31) : ∀ f m, m ≤ p → p < m + f → pick S (nI (cs S p)) f m (cs S m) = nI p
  | 0, m, h1, h2 => by omega
  | f + 1, m, h1, h2 => by
    have b1 := cs_le S p
    have b2 := cs_le S m
    cases hs : S m
    · rw [pick_s0 hs]
      have hm : m ≠ p := by rintro rfl; rw [hs] at hp; cases hp
      have := pick_at hp hp2 f (m + 1) (by omega) (by omega)
      rwa [cs_0 hs] at this
    · rw [pick_s1 hs]
      by_cases hm : m = p
      · subst hm; rw [if_pos rfl]
      · have := cs_lt hs (show m < p by omega)
        rw [if_neg (by rw [nI_eq (by omega) (by omega)]; omega)]
        have := pick_at hp hp2 f (m + 1) (by omega) (by omega)
        rwa [cs_1 hs] at this
theorem cs_cut {S : Nat → Bool} {n : Nat} : ∀ m, cs (fun i => decide (i < n) && S i) m = cs S (min m n)
  | 0 => by rw [Nat.zero_min]; rfl
  | m + 1 => by
    by_cases h : m < n
    · rw [show min (m + 1) n = m + 1 by omega]
      have ih := cs_cut (S := S) (n := n) m
      rw [show min m n = m by omega] at ih
      cases hs : S m
      · rw [cs_0 hs, cs_0 (by simp [hs]), ih]
      · rw [cs_1 hs, cs_1 (by simp [hs, h]), ih]
    · rw [show min (m + 1) n = n by omega]
      have ih := cs_cut (S := S) (n := n) m
      rw [show min m n = n by omega] at ih
      rw [cs_0 (by simp [h]), ih]
theorem cs_cong {S S' : Nat → Bool} : ∀ n, (∀ i, i < n → S i = S' i) → cs S n = cs S' n
  | 0, _ => rfl
  | n + 1, h => by
    have ih := cs_cong n (fun i hi => h i (by omega))
    cases hs : S n
    · rw [cs_0 hs, cs_0 ((h n (by omega)) ▸ hs), ih]
    · rw [cs_1 hs, cs_1 ((h n (by omega)) ▸ hs), ih]
/-! bitCount -/
def bcF (p1 : Int32) : Int32 :=
  let y_1 := p1 - (((p1.toUInt32 >>> ((1 : Int32).toUInt32 &&& Int32.toUInt32 31)).toInt32) &&& 1431655765)
  let y_2 := (y_1 &&& 858993459) + (((y_1.toUInt32 >>> ((2 : Int32).toUInt32 &&& Int32.toUInt32 31)).toInt32) &&& 858993459)
  let y_3 := (y_2 + ((y_2.toUInt32 >>> ((4 : Int32).toUInt32 &&& Int32.toUInt32 31)).toInt32)) &&& 252645135
  let y_4 := y_3 + ((y_3.toUInt32 >>> ((8 : Int32).toUInt32 &&& Int32.toUInt32 31)).toInt32)
  let y_5 := y_4 + ((y_4.toUInt32 >>> ((16 : Int32).toUInt32 &&& Int32.toUInt32 31)).toInt32)
  y_5 &&& 63
theorem bc_all : ∀ m, m < 1024 → bcF (nI m) = nI (cs (bt (nI m)) 10) := by decide +kernel
theorem SB.small {x : Int32} {o : Nat → Bool} (h : SB x o) : ∃ m, m < 1024 ∧ x = nI m := by
  refine ⟨x.toBitVec.toNat % 2 ^ 10, Nat.mod_lt _ (by decide), ?_⟩
  rw [← pk_and x (m := 1023) 10 (by decide)]
  apply b_ext
  intro i hi
  have e : bt 1023 i = decide (i < 10) := (by decide +kernel : ∀ i, i < 32 → bt 1023 i = decide (i < 10)) i hi
  rw [b_and, e, h i hi]
  by_cases h2 : i < 10 <;> simp [h2]
theorem c_bitCount {S : Nat → Bool} {n : Nat} (hn : n ≤ 10) {post : Int32 → Unit → Prop} (h : post (nI (cs S n)) ()) : wp_J6_bitCount_0f7a4 (acc S n) post := by
  have hb : bcF (acc S n) = nI (cs S n) := by
    have hS := acc_SB (S := S) n hn
    obtain ⟨m, hm, e⟩ := hS.small
    rw [e, bc_all m hm, ← e, cs_cong 10 (fun i hi => acc_at hn hi), cs_cut, show min 10 n = n by omega]
  unfold wp_J6_bitCount_0f7a4
  intro y1 e1 y2 e2 y3 e3 y4 e4 y5 e5
  have : y5 &&& 63 = bcF (acc S n) := by
    subst e1; subst e2; subst e3; subst e4; subst e5; rfl
  rw [this, hb]; exact h
/-! families -/
def mS (σ : Sg) (g : Nat) : Nat → Bool := fun p => decide (σ.1 3 p = g + 1)
def szf (σ : Sg) (g : Nat) : Nat := cs (mS σ g) (nP σ)
def sz1 (σ : Sg) (g : Nat) : Nat := if szf σ g = 0 then 1 else szf σ g
def pg (σ : Sg) : Nat → Nat
  | 0 => 1
  | d + 1 => pg σ d * sz1 σ (3 - d)
theorem sz1_b {σ : Sg} (hV : VS σ) (g : Nat) : 1 ≤ sz1 σ g ∧ sz1 σ g ≤ 10 := by
  have h1 := cs_le (mS σ g) (nP σ)
  have h2 := hV.n10
  unfold sz1 szf
  split <;> omega
theorem pg_b {σ : Sg} (hV : VS σ) : ∀ d, 1 ≤ pg σ d ∧ pg σ d ≤ 10 ^ d
  | 0 => ⟨Nat.le_refl _, Nat.le_refl _⟩
  | d + 1 => by
    have h1 := pg_b hV d
    have h2 := sz1_b hV (3 - d)
    exact ⟨Nat.mul_le_mul h1.1 h2.1, Nat.mul_le_mul h1.2 h2.2⟩
theorem pg_b4 {σ : Sg} (hV : VS σ) {d : Nat} (hd : d ≤ 4) : 1 ≤ pg σ d ∧ pg σ d ≤ 10000 := by
  have := pg_b hV d
  exact ⟨this.1, Nat.le_trans this.2 (Nat.pow_le_pow_right (n := 10) (by omega) hd)⟩
/-- part i is the one that choice c takes of family g -/
def sel (σ : Sg) (c g i : Nat) : Prop := σ.1 3 i = g + 1 ∧ (c / pg σ (3 - g)) % szf σ g = cs (mS σ g) i
def inV (σ : Sg) (c i : Nat) : Prop := σ.1 3 i = 0 ∨ ∃ g, g < 4 ∧ sel σ c g i
noncomputable def inb (σ : Sg) (c i : Nat) : Bool := @ite _ (inV σ c i) (Classical.propDecidable _) true false
theorem inb_1 {σ : Sg} {c i : Nat} : inb σ c i = true ↔ inV σ c i := by
  unfold inb
  by_cases h : inV σ c i
  · rw [if_pos h]; exact ⟨fun _ => h, fun _ => rfl⟩
  · rw [if_neg h]; exact ⟨fun e => absurd e Bool.false_ne_true, fun e => absurd e h⟩
theorem inb_0 {σ : Sg} {c i : Nat} : inb σ c i = false ↔ ¬ inV σ c i := by
  rw [← inb_1]; cases inb σ c i <;> simp
theorem szf_pos {σ : Sg} {g i : Nat} (hi : i < nP σ) (h : σ.1 3 i = g + 1) : 1 ≤ szf σ g := by
  have hs : mS σ g i = true := by simp [mS, h]
  have := cs_lt hs hi
  unfold szf; omega
section CFAM
variable {σ : Sg} {kd : Nat → Int32} {gr : Nat → Int64} {cv br hz fm dm e1 e2 fk : Nat → Int32} {pn fn : Int32}
theorem c_membersOf (hV : VS σ) (hR : RC σ kd gr cv br hz fm dm e1 e2 fk pn fn) {v : Int32} {S : Nat → Bool} (hS : ∀ p, p < nP σ → (nI (σ.1 3 p) - 1 = v ↔ S p = true)) {post : Int32 → Unit → Prop} (h : post (acc S (nP σ)) ()) : wp_X1_membersOf fm pn v post := by
  have hn := hV.n10
  unfold wp_X1_membersOf
  intro A4 c4
  have loop := up (P := fun q => A4 (acc S q) (nI q)) (m := 0) (n := nP σ) (by omega) ?_ ?_
  · exact loop
  · refine c4 _ _ ?_
    rw [hR.1]
    exact ye_ (nI_le (by omega) (by omega)) h
  · intro q _ hq ih
    refine c4 _ _ ?_
    rw [hR.1, nI_1, nI_clamp (by omega), (hR.2.2.1 q hq).2.2.2.2.2.1, hS q hq]
    refine no_ (nI_ge hq (by omega)) ⟨vp_in_nI (by omega) (by omega), ⟨fun e => ?_, fun e => ?_⟩⟩
    · rw [acc_1 e] at ih; exact ih
    · rw [acc_0 (eq_false_of_ne_true e)] at ih; exact ih
theorem fm_m1 {m : Nat} (hm : m ≤ 4) : nI m - 1 = -1 ↔ m = 0 := by
  have : ∀ m, m ≤ 4 → (nI m - 1 = -1 ↔ m = 0) := by decide
  exact this m hm
theorem c_family (hV : VS σ) (hR : RC σ kd gr cv br hz fm dm e1 e2 fk pn fn) {p k : Int32} {post : Int32 → Unit → Prop} (h1 : ∀ c, c < pg σ 4 → p = nI c → post (pick (inb σ c) k (nP σ) 0 0) ()) (h0 : (¬ ∃ c, c < pg σ 4 ∧ p = nI c) → post (-1) ()) : wp_X5_family fm pn p k post := by
  have hn := hV.n10
  have ee := hR.1
  have pb := pg_b4 hV (d := 4) (by omega)
  have hzero : (¬ ∃ c, c < pg σ 4 ∧ p = nI c) → wp_X5_memberOf 0 k (fun r_2 _ => post r_2 ()) := by
    intro e
    refine c_memberOf (S := fun _ => false) (fun i _ => b_0 i) ?_
    rw [pick_none 10 0 0 (fun _ _ _ => rfl)]
    exact h0 e
  unfold wp_X5_family wp_X1_variant
  intro A17 c17
  refine ⟨fun hp => ?_, fun hp => hzero ?_⟩
  · obtain ⟨c, hc, rfl⟩ : ∃ c, c < 2 ^ 31 ∧ p = nI c := by
      refine nI_of (fun q => ?_)
      rw [Int32.le_iff_toInt_le] at hp
      rw [Int32.lt_iff_toInt_lt] at q
      omega
    have loop : ∀ g, g ≤ 4 → ∀ x, (∀ i, i < 10 → (bt x i = true ↔ i < nP σ ∧ (σ.1 3 i = 0 ∨ ∃ g', g ≤ g' ∧ g' < 4 ∧ sel σ c g' i))) → A17 x (nI (c / pg σ (4 - g))) (nI g + (-1)) := by
      intro g
      induction g with
      | zero =>
        intro _ x hx
        refine c17 _ _ _ (ye_ (by decide) ?_)
        have p4 : pg σ (4 - 0) = pg σ 4 := rfl
        rw [p4]
        have hd : c / pg σ 4 ≤ c := Nat.div_le_self _ _
        refine pk_eq (c / pg σ 4) 0 (fun e => ?_) (fun e => hzero ?_)
        · have hlt : c < pg σ 4 := by
            rcases Nat.lt_or_ge c (pg σ 4) with h | h
            · exact h
            · have := Nat.div_pos h (by omega); omega
          refine c_memberOf (S := fun i => decide (i < nP σ) && inb σ c i) (fun i hi => ?_) ?_
          · have := hx i hi
            have e2 : (i < nP σ ∧ (σ.1 3 i = 0 ∨ ∃ g', 0 ≤ g' ∧ g' < 4 ∧ sel σ c g' i)) ↔ (decide (i < nP σ) && inb σ c i) = true := by
              rw [Bool.and_eq_true, decide_eq_true_iff, inb_1]
              unfold inV
              constructor
              · rintro ⟨a, b | ⟨g', _, b⟩⟩
                · exact ⟨a, Or.inl b⟩
                · exact ⟨a, Or.inr ⟨g', b⟩⟩
              · rintro ⟨a, b | ⟨g', b⟩⟩
                · exact ⟨a, Or.inl b⟩
                · exact ⟨a, Or.inr ⟨g', Nat.zero_le _, b⟩⟩
            rw [e2] at this
            cases q1 : bt x i
            · cases q2 : (decide (i < nP σ) && inb σ c i)
              · rfl
              · rw [q1] at this; exact absurd (this.mpr q2) Bool.false_ne_true
            · exact (this.mp q1).symm
          · rw [pick_10 (S' := inb σ c) hn (fun j hj => by simp [hj]) (fun j h1 h2 => by simp; omega)]
            exact h1 c hlt rfl
        · rintro ⟨c', h2, h3⟩
          rw [nI_eq (by omega) (by omega)] at h3
          subst h3
          exact e (Nat.div_eq_of_lt h2)
      | succ g ih =>
        intro hg x hx
        have pb3 := pg_b4 hV (d := 3 - g) (by omega)
        have hle : c / pg σ (3 - g) ≤ c := Nat.div_le_self _ _
        have hst : pg σ (4 - g) = pg σ (3 - g) * sz1 σ g := by
          rw [show 4 - g = (3 - g) + 1 by omega]
          show pg σ (3 - g) * sz1 σ (3 - (3 - g)) = _
          rw [show 3 - (3 - g) = g by omega]
        refine c17 _ _ _ ?_
        rw [pk_m1, show 4 - (g + 1) = 3 - g by omega]
        refine no_ (nI_pos (by omega)) ?_
        refine c_membersOf hV hR (S := mS σ g) (fun q hq => by rw [fm_eq (hV.2.2.2.1 q).1 (by omega)]; simp [mS]) ?_
        refine c_bitCount hn ?_
        have hsz : cs (mS σ g) (nP σ) = szf σ g := rfl
        rw [hsz]
        have hsl : szf σ g ≤ 10 := Nat.le_trans (cs_le _ _) hn
        refine pk_le (szf σ g) 0 (fun e => ?_) (fun e => ?_)
        · have s1 : sz1 σ g = 1 := by unfold sz1; rw [if_pos (by omega)]
          have := ih (by omega) x (fun i hi => ?_)
          · rw [hst, s1, Nat.mul_one] at this; exact this
          · rw [hx i hi]
            constructor
            · rintro ⟨a, b | ⟨g', b1, b2⟩⟩
              · exact ⟨a, Or.inl b⟩
              · exact ⟨a, Or.inr ⟨g', by omega, b2⟩⟩
            · rintro ⟨a, b | ⟨g', b1, b2, b3⟩⟩
              · exact ⟨a, Or.inl b⟩
              · refine ⟨a, Or.inr ⟨g', ?_, b2, b3⟩⟩
                rcases Nat.lt_or_ge g g' with h | h
                · omega
                · have : g' = g := by omega
                  subst this
                  have := szf_pos a b3.1
                  omega
        · have s1 : sz1 σ g = szf σ g := by unfold sz1; rw [if_neg (by omega)]
          have n0 : ¬ nI (szf σ g) = 0 := nI_ne0 e (by omega)
          refine ⟨n0, ?_⟩
          rw [pk_rem (by omega) e (by omega), pk_div (by omega) e (by omega), Nat.div_div_eq_div_mul]
          have hm : (c / pg σ (3 - g)) % szf σ g < cs (mS σ g) (nP σ) := Nat.mod_lt _ e
          obtain ⟨p, hp1, hp2, hp3⟩ := cs_ex (nP σ) hm
          refine c_memberOf (S := fun i => decide (i < nP σ) && mS σ g i) (fun i hi => acc_at hn hi) ⟨n0, ?_⟩
          have pa : pick (mS σ g) (nI (cs (mS σ g) p)) (nP σ) 0 0 = nI p := pick_at hp2 (by omega) (nP σ) 0 (Nat.zero_le _) (by omega)
          rw [pick_10 (S' := mS σ g) hn (fun j hj => by simp [hj]) (fun j h1 h2 => by simp; omega), ← hp3, pa]
          have := ih (by omega) (x ||| (1 <<< (nI p &&& 31))) (fun i hi => ?_)
          · rw [hst, s1] at this; exact this
          · rw [b_or, b_pow (by omega) (by omega), Bool.or_eq_true, hx i hi, decide_eq_true_iff]
            constructor
            · rintro (⟨a, b | ⟨g', b1, b2⟩⟩ | rfl)
              · exact ⟨a, Or.inl b⟩
              · exact ⟨a, Or.inr ⟨g', by omega, b2⟩⟩
              · refine ⟨hp1, Or.inr ⟨g, by omega, by omega, ?_, hp3.symm⟩⟩
                simpa [mS] using hp2
            · rintro ⟨a, b | ⟨g', b1, b2, b3⟩⟩
              · exact Or.inl ⟨a, Or.inl b⟩
              · rcases Nat.lt_or_ge g g' with h | h
                · exact Or.inl ⟨a, Or.inr ⟨g', by omega, b2, b3⟩⟩
                · have : g' = g := by omega
                  subst this
                  exact Or.inr (cs_inj (by simp [mS]; exact b3.1) hp2 (by rw [hp3]; exact b3.2.symm))
    refine c_membersOf hV hR (S := fun q => decide (σ.1 3 q = 0)) (fun q hq => by rw [fm_m1 (hV.2.2.2.1 q).1]; simp) ?_
    have := loop 4 (by omega) (acc (fun q => decide (σ.1 3 q = 0)) (nP σ)) (fun i hi => ?_)
    · have d1 : c / pg σ (4 - 4) = c := Nat.div_one c
      rw [d1] at this
      exact this
    · rw [acc_at hn hi, Bool.and_eq_true, decide_eq_true_iff, decide_eq_true_iff]
      constructor
      · rintro ⟨a, b⟩; exact ⟨a, Or.inl b⟩
      · rintro ⟨a, b | ⟨g', b1, b2, _⟩⟩
        · exact ⟨a, b⟩
        · omega
  · rintro ⟨c, h2, rfl⟩
    exact hp (nI_pos' (by omega))
end CFAM
