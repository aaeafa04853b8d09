/-! Integer.bitCount against the sum of 25 bits -/
def pcn (n : Nat) : Nat → Nat
  | 0 => 0
  | k + 1 => pcn n k + n / 2 ^ k % 2
theorem bitI_nI {n : Nat} (hn : n < 2 ^ 31) {k : Nat} (hk : k < 32) : bitI (nI n) k = nI (n / 2 ^ k % 2) := by
  unfold bitI
  rw [pk_shrN hn _ k (s_l k hk)]
  exact fa_mask _ 1
theorem bsum_nI {n : Nat} (hn : n < 2 ^ 31) : ∀ k, k ≤ 25 → bsum (nI n) k = nI (pcn n k) := by
  intro k
  induction k with
  | zero => intro _; rfl
  | succ k ih =>
    intro hk
    show bsum (nI n) k + bitI (nI n) k = nI (pcn n k + n / 2 ^ k % 2)
    rw [ih (by omega), bitI_nI hn (by omega), nI_add]
def bc1 (x : Int32) : Int32 := x - ((x.toUInt32 >>> ((nI 1).toUInt32 &&& Int32.toUInt32 31)).toInt32 &&& 1431655765)
def bc2 (x : Int32) : Int32 := (x &&& 858993459) + ((x.toUInt32 >>> ((nI 2).toUInt32 &&& Int32.toUInt32 31)).toInt32 &&& 858993459)
def bc3 (x : Int32) : Int32 := (x + (x.toUInt32 >>> ((nI 4).toUInt32 &&& Int32.toUInt32 31)).toInt32) &&& 252645135
def bc4 (x : Int32) : Int32 := x + (x.toUInt32 >>> ((nI 8).toUInt32 &&& Int32.toUInt32 31)).toInt32
def bc5 (x : Int32) : Int32 := x + (x.toUInt32 >>> ((nI 16).toUInt32 &&& Int32.toUInt32 31)).toInt32
def bcJ (x : Int32) : Int32 := bc5 (bc4 (bc3 (bc2 (bc1 x)))) &&& nI 63
def q1 (d n : Nat) : Nat := n - ((n / 2) &&& d)
def q2 (d n : Nat) : Nat := (n &&& d) + ((n / 4) &&& d)
def q3 (d n : Nat) : Nat := (n + n / 16) &&& d
theorem and8 {a c : Nat} (m d : Nat) (ha : a < 256) (hc : c < 256) : (a + 256 * m) &&& (c + 256 * d) = (a &&& c) + 256 * (m &&& d) := by
  have e1 : a + 256 * m = 2 ^ 8 * m + a := by omega
  have e2 : c + 256 * d = 2 ^ 8 * d + c := by omega
  have h3 : a &&& c < 2 ^ 8 := Nat.lt_of_le_of_lt Nat.and_le_left ha
  have e3 : (a &&& c) + 256 * (m &&& d) = 2 ^ 8 * (m &&& d) + (a &&& c) := by omega
  rw [e1, e2, e3]
  apply Nat.eq_of_testBit_eq
  intro i
  rw [Nat.testBit_and, Nat.testBit_two_pow_mul_add _ ha, Nat.testBit_two_pow_mul_add _ hc, Nat.testBit_two_pow_mul_add _ h3]
  by_cases h : i < 8 <;> simp [h, Nat.testBit_and]
theorem tab1 : ∀ a, a < 256 → ∀ t, t < 2 → (a / 2 + 128 * t) &&& 85 = (a / 2) &&& 85 := by decide +kernel
theorem tab2 : ∀ a, a < 256 → ∀ t, t < 4 → (a / 4 + 64 * t) &&& 51 = (a / 4) &&& 51 := by decide +kernel
theorem tab3 : ∀ a, a < 69 → ∀ t, t < 5 → (a + a / 16 + 16 * t) &&& 15 = (a + a / 16) &&& 15 := by decide +kernel
theorem tab4 : ∀ a, a < 256 → q1 85 a < 256 ∧ q2 51 (q1 85 a) % 16 < 5 ∧ q2 51 (q1 85 a) / 16 < 5 ∧ q3 15 (q2 51 (q1 85 a)) = pcn a 8 ∧ pcn a 8 ≤ 8 := by decide +kernel
theorem q1_s {a m d : Nat} (ha : a < 256) : q1 (85 + 256 * d) (a + 256 * m) = q1 85 a + 256 * q1 d m := by
  have e : (a + 256 * m) / 2 = (a / 2 + 128 * (m % 2)) + 256 * (m / 2) := by omega
  have t := tab1 a ha (m % 2) (Nat.mod_lt _ (by decide))
  have l1 : (a / 2) &&& 85 ≤ a := Nat.le_trans Nat.and_le_left (Nat.div_le_self _ _)
  have l2 : (m / 2) &&& d ≤ m := Nat.le_trans Nat.and_le_left (Nat.div_le_self _ _)
  unfold q1
  rw [e, and8 _ _ (by omega) (by decide), t]
  omega
theorem q2_s {a m d : Nat} (ha : a < 256) : q2 (51 + 256 * d) (a + 256 * m) = q2 51 a + 256 * q2 d m := by
  have e : (a + 256 * m) / 4 = (a / 4 + 64 * (m % 4)) + 256 * (m / 4) := by omega
  have t := tab2 a ha (m % 4) (Nat.mod_lt _ (by decide))
  unfold q2
  rw [e, and8 m d ha (by decide), and8 (m / 4) d (by omega) (by decide), t]
  omega
theorem q3_s {a m d : Nat} (h1 : a % 16 < 5) (h2 : a / 16 < 5) (hm : m % 16 < 5) : q3 (15 + 256 * d) (a + 256 * m) = q3 15 a + 256 * q3 d m := by
  have e : (a + 256 * m) + (a + 256 * m) / 16 = (a + a / 16 + 16 * (m % 16)) + 256 * (m + m / 16) := by omega
  have t := tab3 a (by omega) (m % 16) hm
  unfold q3
  rw [e, and8 _ _ (by omega) (by decide), t]
theorem pcn_lo {a m : Nat} : pcn (a + 256 * m) 8 = pcn a 8 := by
  simp only [pcn]
  omega
theorem pcn_hi {a m : Nat} (ha : a < 256) : ∀ j, pcn (a + 256 * m) (8 + j) = pcn a 8 + pcn m j := by
  intro j
  induction j with
  | zero => rw [Nat.add_zero]; exact pcn_lo
  | succ j ih =>
    show pcn (a + 256 * m) (8 + j) + (a + 256 * m) / 2 ^ (8 + j) % 2 = pcn a 8 + (pcn m j + m / 2 ^ j % 2)
    have e : (a + 256 * m) / 2 ^ (8 + j) = m / 2 ^ j := by
      rw [Nat.pow_add, ← Nat.div_div_eq_div_mul]
      congr 1
      omega
    rw [ih, e]
    omega
theorem q_all {a b c d : Nat} (ha : a < 256) (hb : b < 256) (hc : c < 256) (hd : d < 256) : q3 252645135 (q2 858993459 (q1 1431655765 (a + 256 * (b + 256 * (c + 256 * d))))) = pcn a 8 + 256 * (pcn b 8 + 256 * (pcn c 8 + 256 * pcn d 8)) := by
  obtain ⟨a1, a2, a3, a4, -⟩ := tab4 a ha
  obtain ⟨b1, b2, b3, b4, -⟩ := tab4 b hb
  obtain ⟨c1, c2, c3, c4, -⟩ := tab4 c hc
  obtain ⟨d1, d2, d3, d4, -⟩ := tab4 d hd
  have e1 : (1431655765 : Nat) = 85 + 256 * (85 + 256 * (85 + 256 * 85)) := by decide
  have e2 : (858993459 : Nat) = 51 + 256 * (51 + 256 * (51 + 256 * 51)) := by decide
  have e3 : (252645135 : Nat) = 15 + 256 * (15 + 256 * (15 + 256 * 15)) := by decide
  rw [e1, e2, e3, q1_s ha, q1_s hb, q1_s hc, q2_s a1, q2_s b1, q2_s c1, q3_s a2 a3 (by omega), q3_s b2 b3 (by omega), q3_s c2 c3 (by omega), a4, b4, c4, d4]
theorem bc_end {w0 w1 w2 w3 : Nat} (h0 : w0 ≤ 8) (h1 : w1 ≤ 8) (h2 : w2 ≤ 8) (h3 : w3 ≤ 8) : (w0 + 256 * (w1 + 256 * (w2 + 256 * w3)) + (w0 + 256 * (w1 + 256 * (w2 + 256 * w3))) / 2 ^ 8 + (w0 + 256 * (w1 + 256 * (w2 + 256 * w3)) + (w0 + 256 * (w1 + 256 * (w2 + 256 * w3))) / 2 ^ 8) / 2 ^ 16) % 2 ^ 6 = w0 + (w1 + (w2 + w3)) := by
  have k1 : (w0 + 256 * (w1 + 256 * (w2 + 256 * w3))) / 2 ^ 8 = w1 + 256 * (w2 + 256 * w3) := by omega
  rw [k1]
  have k2 : (w0 + 256 * (w1 + 256 * (w2 + 256 * w3)) + (w1 + 256 * (w2 + 256 * w3))) / 2 ^ 16 = w2 + w3 + 256 * w3 := by omega
  rw [k2]
  have k3 : w0 + 256 * (w1 + 256 * (w2 + 256 * w3)) + (w1 + 256 * (w2 + 256 * w3)) + (w2 + w3 + 256 * w3) = (w0 + (w1 + (w2 + w3))) + 64 * (4 * (w1 + 256 * (w2 + 256 * w3)) + 4 * (w2 + 256 * w3) + 4 * w3) := by omega
  rw [k3, Nat.add_mul_mod_self_left]
  exact Nat.mod_eq_of_lt (by omega)
theorem bc_pcn {n : Nat} (hn : n < 2 ^ 25) : bcJ (nI n) = nI (pcn n 25) := by
  have en : n = n % 256 + 256 * (n / 256 % 256 + 256 * (n / 65536 % 256 + 256 * (n / 16777216))) := by omega
  have ha : n % 256 < 256 := Nat.mod_lt _ (by decide)
  have hb : n / 256 % 256 < 256 := Nat.mod_lt _ (by decide)
  have hc : n / 65536 % 256 < 256 := Nat.mod_lt _ (by decide)
  have hd : n / 16777216 < 2 := by omega
  generalize n % 256 = a at en ha
  generalize n / 256 % 256 = b at en hb
  generalize n / 65536 % 256 = c at en hc
  generalize n / 16777216 = d at en hd
  obtain ⟨-, -, -, -, a5⟩ := tab4 a ha
  obtain ⟨-, -, -, -, b5⟩ := tab4 b hb
  obtain ⟨-, -, -, -, c5⟩ := tab4 c hc
  obtain ⟨-, -, -, -, d5⟩ := tab4 d (by omega)
  have hq := q_all ha hb hc (d := d) (by omega)
  rw [← en] at hq
  have h1 : bc1 (nI n) = nI (q1 1431655765 n) := by
    unfold bc1
    rw [pk_ushrN (by omega) _ 1 (by decide), show (1431655765 : Int32) = nI 1431655765 from by decide, fa_and, pk_sub (Nat.le_trans Nat.and_le_left (Nat.div_le_self _ _))]
    rfl
  have l1 : q1 1431655765 n ≤ n := Nat.sub_le _ _
  generalize q1 1431655765 n = n1 at h1 hq l1
  have h2 : bc2 (nI n1) = nI (q2 858993459 n1) := by
    unfold bc2
    rw [pk_ushrN (by omega) _ 2 (by decide), show (858993459 : Int32) = nI 858993459 from by decide, fa_and, fa_and, nI_add]
    rfl
  have l2 : q2 858993459 n1 ≤ n1 + n1 / 4 := Nat.add_le_add Nat.and_le_left Nat.and_le_left
  generalize q2 858993459 n1 = n2 at h2 hq l2
  have h3 : bc3 (nI n2) = nI (q3 252645135 n2) := by
    unfold bc3
    rw [pk_ushrN (by omega) _ 4 (by decide), show (252645135 : Int32) = nI 252645135 from by decide, nI_add, fa_and]
    rfl
  have hp : pcn n 25 = pcn a 8 + (pcn b 8 + (pcn c 8 + pcn d 1)) := by
    rw [en]
    rw [show (25 : Nat) = 8 + (8 + (8 + 1)) from rfl, pcn_hi ha, pcn_hi hb, pcn_hi hc]
  have hd8 : pcn d 8 = pcn d 1 := by
    have h : ∀ d, d < 2 → pcn d 8 = pcn d 1 := by decide
    exact h d hd
  rw [hq, hd8] at h3
  rw [hd8] at d5
  generalize pcn a 8 = w0 at *
  generalize pcn b 8 = w1 at *
  generalize pcn c 8 = w2 at *
  generalize pcn d 1 = w3 at *
  unfold bcJ
  rw [h1, h2, h3]
  unfold bc4 bc5
  rw [pk_ushrN (by omega) _ 8 (by decide), nI_add, pk_ushrN (by omega) _ 16 (by decide), nI_add, show nI 63 = nI (2 ^ 6 - 1) from rfl, fa_mask, hp, bc_end a5 b5 c5 d5]
theorem bc_bsum {n : Nat} (hn : n < 2 ^ 25) : bcJ (nI n) = bsum (nI n) 25 := by rw [bc_pcn hn, bsum_nI (by omega) 25 (Nat.le_refl _)]
/-- a shape: 25 bits -/
def S25 (x : Int32) : Prop := ∃ n, n < 2 ^ 25 ∧ x = nI n
theorem S25_0 : S25 (nI 0) := ⟨0, by decide, rfl⟩
theorem S25_xor {x y : Int32} (hx : S25 x) (hy : S25 y) : S25 (x ^^^ y) := by
  obtain ⟨a, ha, rfl⟩ := hx
  obtain ⟨b, hb, rfl⟩ := hy
  exact ⟨a ^^^ b, Nat.xor_lt_two_pow ha hb, nx_xor a b⟩
theorem S25_or {x y : Int32} (hx : S25 x) (hy : S25 y) : S25 (x ||| y) := by
  obtain ⟨a, ha, rfl⟩ := hx
  obtain ⟨b, hb, rfl⟩ := hy
  exact ⟨a ||| b, Nat.or_lt_two_pow ha hb, fa_or a b⟩
theorem S25_and {x : Int32} (y : Int32) (hx : S25 x) : S25 (x &&& y) := by
  obtain ⟨a, ha, rfl⟩ := hx
  obtain ⟨b, hb, rfl⟩ := wb_of32 y
  exact ⟨a &&& b, Nat.lt_of_le_of_lt Nat.and_le_left ha, nx_and a b⟩
theorem bc_df {x y : Int32} (hx : S25 x) (hy : S25 y) : bcJ (x ^^^ y) = df x y := by
  obtain ⟨n, hn, e⟩ := S25_xor hx hy
  unfold df
  rw [e]
  exact bc_bsum hn
