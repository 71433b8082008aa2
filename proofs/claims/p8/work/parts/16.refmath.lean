/-! numbers as sets of bits, sums, and what the reference reckons of a build -/
theorem z_or (a b : Nat) : nI a ||| nI b = nI (a ||| b) := by
  apply Int32.toBitVec_inj.1
  show BitVec.ofNat 32 a ||| BitVec.ofNat 32 b = BitVec.ofNat 32 (a ||| b)
  apply BitVec.eq_of_getLsbD_eq
  intro i hi
  simp [hi]
theorem z_sml : ∀ n, n < 32 → ((nI n &&& 31).toBitVec.smod 32).toNat = n := by decide +kernel
theorem z_shl1 : ∀ n, n < 31 → (1 : Int32) <<< (nI n &&& 31) = nI (2 ^ n) := by decide +kernel
theorem z_shr {a j : Nat} (ha : a < 2 ^ 31) (hj : j < 32) : nI a >>> (nI j &&& 31) = nI (a / 2 ^ j) := pk_shrN ha _ j (z_sml j hj)
theorem z_and1 {a : Nat} (ha : a < 2 ^ 32) : nI a &&& 1 = nI (a % 2) := pk_andN (m := 1) ha 1 (by decide)
theorem z_tb {a j : Nat} : a / 2 ^ j % 2 = 1 ↔ a.testBit j = true := by
  rw [Nat.testBit_eq_decide_div_mod_eq]
  exact (decide_eq_true_iff).symm
theorem z_nIinj {a b : Nat} (ha : a < 2000) (hb : b < 2000) (h : nI a = nI b) : a = b := (nI_eq (by omega) (by omega)).mp h
theorem z_nIm1 {a : Nat} (ha : a < 2000) (h : (-1 : Int32) = nI a) : False := by
  have h1 := nI_pos (n := a) (by omega)
  rw [← h] at h1
  exact h1 (by decide)
theorem z_or16 {a b : Nat} (ha : a ≤ 65535) (hb : b ≤ 65535) : a ||| b ≤ 65535 := by
  have := Nat.or_lt_two_pow (n := 16) (show a < 2 ^ 16 by omega) (show b < 2 ^ 16 by omega)
  omega
theorem z_p16 : ∀ p, p < 16 → 2 ^ p ≤ 65535 := by decide +kernel
theorem zPl.lt {cn : Nat → Int32} {b n p : Nat} {nm : Int32} (hn : n ≤ 16) (h : zPl cn b n nm (nI p)) (hp : p < 2000) : p < n := by
  rcases h with ⟨h, -⟩ | ⟨k, hk, h, -⟩
  · exact (z_nIm1 hp h.symm).elim
  · rw [z_nIinj hp (by omega) h]
    exact hk
/-- the classes that a class (of build bd, at ci) waits for, by its ABOVE and its FACES -/
def zDep (cl : Nat → Nat) (cn ab : Nat → Int32) (fc : Nat → Nat) (fa : Nat → Int32) (bd ci p : Nat) : Prop := (ab ci ≠ 0 ∧ zPl cn (16 * bd) (cl bd) (ab ci) (nI p)) ∨ ∃ k, k < fc ci ∧ zPl cn (16 * bd) (cl bd) (fa (3 * ci + k)) (nI p)
/-- all that a class waits for is there, without ERROR -/
def zRdy (cl : Nat → Nat) (cn ab : Nat → Int32) (fc : Nat → Nat) (fa er : Nat → Int32) (bd ci : Nat) : Prop := (ab ci ≠ 0 → ∃ p, p < cl bd ∧ zPl cn (16 * bd) (cl bd) (ab ci) (nI p) ∧ er (16 * bd + p) = 0) ∧ ∀ k, k < fc ci → ∃ p, p < cl bd ∧ zPl cn (16 * bd) (cl bd) (fa (3 * ci + k)) (nI p) ∧ er (16 * bd + p) = 0
/-- the same, and of a lower rank -/
def zRdk (cl : Nat → Nat) (cn ab : Nat → Int32) (fc : Nat → Nat) (fa er : Nat → Int32) (bd c : Nat) (rk : Nat → Nat) : Prop := (ab (16 * bd + c) ≠ 0 → ∃ p, p < cl bd ∧ zPl cn (16 * bd) (cl bd) (ab (16 * bd + c)) (nI p) ∧ er (16 * bd + p) = 0 ∧ rk p < rk c) ∧ ∀ k, k < fc (16 * bd + c) → ∃ p, p < cl bd ∧ zPl cn (16 * bd) (cl bd) (fa (3 * (16 * bd + c) + k)) (nI p) ∧ er (16 * bd + p) = 0 ∧ rk p < rk c
/-- a build that is settled -/
def zOK (cl : Nat → Nat) (cn ab : Nat → Int32) (fc : Nat → Nat) (fa er : Nat → Int32) (bd : Nat) : Prop := ∃ rk : Nat → Nat, ∀ c, c < cl bd → (¬ er (16 * bd + c) < 0) ∧ (er (16 * bd + c) = 0 → zRdk cl cn ab fc fa er bd c rk)
theorem z_bs {cn : Nat → Int32} {b n bt k : Nat} {nm : Int32} (hk : k < 16) (h : zPl cn b n nm (nI k)) : ∀ p, p < 16 → zPl cn b n nm (nI p) → (bt ||| 2 ^ k).testBit p = true := by
  intro p hp h2
  rw [← z_nIinj (by omega) (by omega) (h.uniq h2), Nat.testBit_or, Nat.testBit_two_pow_self, Bool.or_true]
theorem z_bs0 {cn : Nat → Int32} {b n k : Nat} {nm : Int32} (hk : k < 16) (h : zPl cn b n nm (nI k)) : ∀ p, p < 16 → zPl cn b n nm (nI p) → (2 ^ k).testBit p = true := by
  intro p hp h2
  rw [← z_nIinj (by omega) (by omega) (h.uniq h2), Nat.testBit_two_pow_self]
theorem z_bn {cn : Nat → Int32} {b n : Nat} {nm : Int32} {P : Prop} {p : Nat} (h : zPl cn b n nm (-1)) (hp : p < 16) (h2 : zPl cn b n nm (nI p)) : P := (z_nIm1 (by omega) (h.uniq h2)).elim
theorem z_bm {a b p : Nat} (h : a.testBit p = true) : (a ||| b).testBit p = true := by rw [Nat.testBit_or, h, Bool.true_or]
theorem z_bm' {a b p : Nat} (h : b.testBit p = true) : (a ||| b).testBit p = true := by rw [Nat.testBit_or, h, Bool.or_true]
def zS (f : Nat → Nat) : Nat → Nat
  | 0 => 0
  | n + 1 => zS f n + f n
theorem zS_le {f g : Nat → Nat} : ∀ n, (∀ j, j < n → f j ≤ g j) → zS f n ≤ zS g n
  | 0, _ => Nat.le_refl _
  | n + 1, h => Nat.add_le_add (zS_le n (fun j hj => h j (by omega))) (h n (by omega))
theorem zS_lt {f g : Nat → Nat} {i : Nat} : ∀ n, (∀ j, j < n → f j ≤ g j) → i < n → f i < g i → zS f n < zS g n
  | 0, _, hi, _ => by omega
  | n + 1, h, hi, hl => by
    have h1 := zS_le n (fun j hj => h j (by omega))
    have h2 := h n (by omega)
    show zS f n + f n < zS g n + g n
    rcases Nat.lt_or_ge i n with q | q
    · have := zS_lt n (fun j hj => h j (by omega)) q hl
      omega
    · rw [show i = n by omega] at hl
      omega
/-- what the ways of a build cover, and that they are closed -/
def zCov (cl : Nat → Nat) (cn ab : Nat → Int32) (fc : Nat → Nat) (fa : Nat → Int32) (bd : Nat) (ct : Nat → Nat) (n : Nat) : Prop := ∀ j, j < n → ∀ p, p < 16 → zDep cl cn ab fc fa bd (16 * bd + j) p → (ct j).testBit p = true
def zClo (ct : Nat → Nat) (n : Nat) : Prop := ∀ j, j < n → ∀ i, i < n → (ct j).testBit i = true → ∀ p, (ct i).testBit p = true → (ct j).testBit p = true
def zFr (ct : Nat → Nat) : Nat → Nat := fun j => 65535 - ct j
theorem z_cov {cl : Nat → Nat} {cn ab : Nat → Int32} {fc : Nat → Nat} {fa : Nat → Int32} {bd : Nat} {ct : Nat → Nat} {n k bt : Nat} (h : zCov cl cn ab fc fa bd ct n) (hx : ∃ x, bt = ct k ||| x) : zCov cl cn ab fc fa bd (z_up ct k bt) n := by
  intro j hj p hp hd
  have h1 := h j hj p hp hd
  obtain ⟨x, rfl⟩ := hx
  rcases Nat.decEq j k with q | rfl
  · rw [z_upn q]
    exact h1
  · rw [z_ups]
    exact z_bm h1
theorem z_covn {cl : Nat → Nat} {cn ab : Nat → Int32} {fc : Nat → Nat} {fa : Nat → Int32} {bd : Nat} {ct : Nat → Nat} {k bt : Nat} (h : zCov cl cn ab fc fa bd ct k) (hx : ∀ p, p < 16 → zDep cl cn ab fc fa bd (16 * bd + k) p → bt.testBit p = true) : zCov cl cn ab fc fa bd (z_up ct k bt) (k + 1) := by
  intro j hj p hp hd
  rcases Nat.decEq j k with q | rfl
  · rw [z_upn q]
    exact h j (by omega) p hp hd
  · rw [z_ups]
    exact hx p hp hd
theorem z_sle {ct : Nat → Nat} {k bt n : Nat} (hx : ∃ x, bt = ct k ||| x) : zS (zFr (z_up ct k bt)) n ≤ zS (zFr ct) n := by
  refine zS_le n (fun j _ => ?_)
  obtain ⟨x, rfl⟩ := hx
  show 65535 - z_up ct k _ j ≤ 65535 - ct j
  rcases Nat.decEq j k with q | rfl
  · rw [z_upn q]
    exact Nat.le_refl _
  · rw [z_ups]
    have := Nat.left_le_or (n := ct j) (m := x)
    omega
theorem z_slt {ct : Nat → Nat} {k bt n : Nat} (hx : ∃ x, bt = ct k ||| x) (hk : k < n) (hb : bt ≤ 65535) (hne : ¬ bt = ct k) : zS (zFr (z_up ct k bt)) n < zS (zFr ct) n := by
  obtain ⟨x, rfl⟩ := hx
  refine zS_lt (i := k) n (fun j _ => ?_) hk ?_
  · show 65535 - z_up ct k _ j ≤ 65535 - ct j
    rcases Nat.decEq j k with q | rfl
    · rw [z_upn q]
      exact Nat.le_refl _
    · rw [z_ups]
      have := Nat.left_le_or (n := ct j) (m := x)
      omega
  · show 65535 - z_up ct k _ k < 65535 - ct k
    rw [z_ups]
    have := Nat.left_le_or (n := ct k) (m := x)
    omega
theorem z_usame {ct : Nat → Nat} {k bt : Nat} (h : bt = ct k) : z_up ct k bt = ct := by
  funext j
  rcases Nat.decEq j k with q | rfl
  · rw [z_upn q]
  · rw [z_ups, h]
/-- how many classes are unsettled -/
def zCn (er : Nat → Int32) (bd : Nat) : Nat → Nat := fun j => if er (16 * bd + j) < 0 then 1 else 0
/-- what is settled so far: its rank lies below the hour, and all that it waits for was settled ahead -/
def zG (cl : Nat → Nat) (cn ab : Nat → Int32) (fc : Nat → Nat) (fa er : Nat → Int32) (bd : Nat) (rk : Nat → Nat) (T : Nat) : Prop := ∀ c, c < cl bd → ¬ er (16 * bd + c) < 0 → rk c < T ∧ (er (16 * bd + c) = 0 → zRdk cl cn ab fc fa er bd c rk)
theorem z_sub {a b : Nat} (h : ∀ p, a.testBit p = true → b.testBit p = true) : a ≤ b := by
  have e : a ||| b = b := by
    apply Nat.eq_of_testBit_eq
    intro i
    rw [Nat.testBit_or]
    cases hb : b.testBit i
    · cases ha : a.testBit i
      · rfl
      · rw [h i ha] at hb
        cases hb
    · rw [Bool.or_true]
  rw [← e]
  exact Nat.left_le_or
/-- one that is unsettled, and waits for none that is -/
theorem z_pick {cl : Nat → Nat} {cn ab : Nat → Int32} {fc : Nat → Nat} {fa er : Nat → Int32} {bd : Nat} {ct : Nat → Nat} (hcl : cl bd ≤ 16) (hv : zCov cl cn ab fc fa bd ct (cl bd)) (hc : zClo ct (cl bd)) (hn : ∀ j, j < cl bd → er (16 * bd + j) < 0 → (ct j).testBit j = false) :
    ∃ m0, m0 ≤ cl bd ∧ (m0 < cl bd → er (16 * bd + m0) < 0 ∧ ∀ p, p < cl bd → zDep cl cn ab fc fa bd (16 * bd + m0) p → ¬ er (16 * bd + p) < 0) ∧ (m0 = cl bd → ∀ j, j < cl bd → ¬ er (16 * bd + j) < 0) := by
  by_cases h : ∃ v j, j < cl bd ∧ er (16 * bd + j) < 0 ∧ ct j = v
  · obtain ⟨v, ⟨j, hj, hu, rfl⟩, hmin⟩ := pk_least (fun v => ∃ j, j < cl bd ∧ er (16 * bd + j) < 0 ∧ ct j = v) h
    refine ⟨j, by omega, fun _ => ⟨hu, fun p hp hd hpu => ?_⟩, fun e => by omega⟩
    have hb := hv j hj p (by omega) hd
    have h1 : ct p ≤ ct j := z_sub (hc j hj p hp hb)
    have h2 : ¬ ct p = ct j := fun e => by
      have h3 := hn p hp hpu
      rw [e, hb] at h3
      cases h3
    exact hmin (ct p) (by omega) ⟨p, hp, hpu, rfl⟩
  · exact ⟨cl bd, Nat.le_refl _, fun e => by omega, fun _ j hj hu => h ⟨ct j, j, hj, hu, rfl⟩⟩
theorem z_cnle {e3 e4 : Nat → Int32} {bd n : Nat} (h : ∀ j, j < n → e4 (16 * bd + j) < 0 → e3 (16 * bd + j) < 0) : zS (zCn e4 bd) n ≤ zS (zCn e3 bd) n := by
  refine zS_le n (fun j hj => ?_)
  unfold zCn
  by_cases q : e4 (16 * bd + j) < 0
  · rw [if_pos q, if_pos (h j hj q)]
    exact Nat.le_refl _
  · rw [if_neg q]
    exact Nat.zero_le _
theorem z_cnlt {e3 e4 : Nat → Int32} {bd n k : Nat} (h : ∀ j, j < n → e4 (16 * bd + j) < 0 → e3 (16 * bd + j) < 0) (hk : k < n) (h3 : e3 (16 * bd + k) < 0) (h4 : ¬ e4 (16 * bd + k) < 0) : zS (zCn e4 bd) n < zS (zCn e3 bd) n := by
  refine zS_lt (i := k) n (fun j hj => ?_) hk ?_
  · unfold zCn
    by_cases q : e4 (16 * bd + j) < 0
    · rw [if_pos q, if_pos (h j hj q)]
      exact Nat.le_refl _
    · rw [if_neg q]
      exact Nat.zero_le _
  · unfold zCn
    rw [if_neg h4, if_pos h3]
    exact Nat.zero_lt_one
theorem zRdk.up {cl : Nat → Nat} {cn ab : Nat → Int32} {fc : Nat → Nat} {fa er : Nat → Int32} {bd c k T : Nat} {rk : Nat → Nat} {r : Int32} (hk : er (16 * bd + k) < 0) (hc : c ≠ k) (h : zRdk cl cn ab fc fa er bd c rk) : zRdk cl cn ab fc fa (upd er (16 * bd + k) r) bd c (z_up rk k T) := by
  have key : ∀ p, er (16 * bd + p) = 0 → p ≠ k := fun p hp e => by
    rw [e] at hp
    rw [hp] at hk
    exact absurd hk (by decide)
  refine ⟨fun ha => ?_, fun i hi => ?_⟩
  · obtain ⟨p, h1, h2, h3, h4⟩ := h.1 ha
    exact ⟨p, h1, h2, by rw [pk_un (by have := key p h3; omega)]; exact h3, by rw [z_upn (key p h3), z_upn hc]; exact h4⟩
  · obtain ⟨p, h1, h2, h3, h4⟩ := h.2 i hi
    exact ⟨p, h1, h2, by rw [pk_un (by have := key p h3; omega)]; exact h3, by rw [z_upn (key p h3), z_upn hc]; exact h4⟩
/-- a class stays unsettled -/
theorem z_gneg {cl : Nat → Nat} {cn ab : Nat → Int32} {fc : Nat → Nat} {fa er : Nat → Int32} {bd k T : Nat} {rk : Nat → Nat} {r : Int32} (hg : zG cl cn ab fc fa er bd rk T) (hk : er (16 * bd + k) < 0) (hr : r < 0) : zG cl cn ab fc fa (upd er (16 * bd + k) r) bd rk T := by
  intro c hc hn
  rcases Nat.decEq c k with q | rfl
  · have q2 : 16 * bd + c ≠ 16 * bd + k := by omega
    rw [pk_un q2] at hn ⊢
    obtain ⟨h1, h2⟩ := hg c hc hn
    refine ⟨h1, fun h0 => ?_⟩
    have h3 := zRdk.up (T := rk k) (r := r) hk q (h2 h0)
    rw [z_usame rfl] at h3
    exact h3
  · rw [pk_us] at hn
    exact absurd hr hn
/-- a class is settled now -/
theorem z_gpos {cl : Nat → Nat} {cn ab : Nat → Int32} {fc : Nat → Nat} {fa er : Nat → Int32} {bd k T : Nat} {rk : Nat → Nat} {r : Int32} (hg : zG cl cn ab fc fa er bd rk T) (hk : er (16 * bd + k) < 0) (hr : r = 0 → zRdy cl cn ab fc fa er bd (16 * bd + k)) : zG cl cn ab fc fa (upd er (16 * bd + k) r) bd (z_up rk k T) (T + 1) := by
  have key : ∀ p, er (16 * bd + p) = 0 → p ≠ k := fun p hp e => by
    rw [e] at hp
    rw [hp] at hk
    exact absurd hk (by decide)
  have low : ∀ p, p < cl bd → er (16 * bd + p) = 0 → rk p < T := fun p hp h0 => (hg p hp (by rw [h0]; decide)).1
  intro c hc hn
  rcases Nat.decEq c k with q | rfl
  · have q2 : 16 * bd + c ≠ 16 * bd + k := by omega
    rw [pk_un q2] at hn ⊢
    obtain ⟨h1, h2⟩ := hg c hc hn
    refine ⟨by rw [z_upn q]; omega, fun h0 => zRdk.up hk q (h2 h0)⟩
  · rw [pk_us, z_ups]
    refine ⟨by omega, fun h0 => ?_⟩
    obtain ⟨h1, h2⟩ := hr h0
    refine ⟨fun ha => ?_, fun i hi => ?_⟩
    · obtain ⟨p, g1, g2, g3⟩ := h1 ha
      exact ⟨p, g1, g2, by rw [pk_un (by have := key p g3; omega)]; exact g3, by rw [z_upn (key p g3), z_ups]; exact low p g1 g3⟩
    · obtain ⟨p, g1, g2, g3⟩ := h2 i hi
      exact ⟨p, g1, g2, by rw [pk_un (by have := key p g3; omega)]; exact g3, by rw [z_upn (key p g3), z_ups]; exact low p g1 g3⟩
theorem z_okof {cl : Nat → Nat} {cn ab : Nat → Int32} {fc : Nat → Nat} {fa er : Nat → Int32} {bd T : Nat} {rk : Nat → Nat} (hg : zG cl cn ab fc fa er bd rk T) (hn : ∀ c, c < cl bd → ¬ er (16 * bd + c) < 0) : zOK cl cn ab fc fa er bd := ⟨rk, fun c hc => ⟨hn c hc, (hg c hc (hn c hc)).2⟩⟩
theorem z_e0 {x : Int32} (h1 : 0 ≤ x) (h2 : x ≤ 0) : x = 0 := Int32.le_antisymm h2 h1
/-- a natural number of which something holds -/
def zN (x : Int32) (P : Nat → Prop) : Prop := ∃ k : Nat, k < 2000000 ∧ P k ∧ x = nI k
theorem z_tbf {a j : Nat} (h : ¬ a / 2 ^ j % 2 = 1) : a.testBit j = false := by
  cases q : a.testBit j
  · rfl
  · exact absurd (z_tb.mpr q) h
theorem z_cnu {er : Nat → Int32} {bd k : Nat} {r : Int32} (h : er (16 * bd + k) < 0) (n : Nat) : ∀ j, j < n → upd er (16 * bd + k) r (16 * bd + j) < 0 → er (16 * bd + j) < 0 := fun j _ h1 => by
  rcases Nat.decEq j k with q | q
  · rw [pk_un (by omega)] at h1
    exact h1
  · rw [q]
    exact h
