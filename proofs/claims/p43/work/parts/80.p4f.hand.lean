/-! by hand: claims that come and go; the tape -/
section HA
variable {nt ne n : Nat} {xT xK xE xF xL uK uB uO uR uL : Nat → Int32}
theorem upd_ne {f : Nat → Int32} {k j : Nat} {v : Int32} (h : ¬ j = k) : upd f k v j = f j := by unfold upd; rw [if_neg h]
theorem cr_add (hc : CR nt ne n xT xK xE xF xL uK uB uO uR uL) (hn : n < 40) {k r l : Int32} {t e : Nat} (hk : k3 k) (ht : t < nt) (he : e < ne) (hr : ¬ k = 0 → ∃ e, e < ne ∧ r = nI e) :
    CR nt ne (n + 1) (upd xT n (nI t)) (upd xK n k) (upd xE n (nI e)) (upd xF n r) (upd xL n l) (upd uK n k) (upd uB n (nI t)) (upd uO n (nI e)) (upd uR n r) (upd uL n l) := by
  refine ⟨by omega, fun j hj => ?_⟩
  by_cases h : j = n
  · subst h
    simp only [upd_at]
    exact ⟨⟨trivial, trivial, trivial, trivial, trivial⟩, hk, ⟨t, ht, rfl⟩, ⟨e, he, rfl⟩, hr⟩
  · simp only [upd_ne h]
    exact hc.2 j (by omega)
theorem x_claim (hc : CR nt ne n xT xK xE xF xL uK uB uO uR uL) (hn : n < 40) (N : Nat) (j0 k r l t e : Int32) (f0 f : Nat → Int32) (hh : f_Ve_hearClaims N (nI (n + 1)) (upd xT n t) (upd xK n k) (upd xE n e) (upd xF n r) (upd xL n l) j0 f0 = some (-1, f)) :
    f_Main_claimByHand N (nI n) xT xK xE xF xL j0 f0 t k e r l = some (.inl (nI n, nI (n + 1), upd xT n t, upd xK n k, upd xE n e, upd xF n r, upd xL n l, -1, f)) := by
  have hf : f_Cl_isFull (nI n) = 0 := if_pos (nI_lt (b := 40) hn (by decide))
  unfold f_Main_claimByHand f_Cl_add
  simp only [hf, if_true, oB_s, rs hn (show 40 < 2147483648 by decide), ← nI_succ, hh, nI_pred]
theorem x_claimF (N : Nat) (j0 k r l t e : Int32) (f0 : Nat → Int32) : f_Main_claimByHand N (nI 40) xT xK xE xF xL j0 f0 t k e r l = some (.inr "java/lang/IllegalStateException") := by
  have hf : f_Cl_isFull (nI 40) = 1 := by decide
  unfold f_Main_claimByHand
  simp only [hf, if_neg n10]
/-- all from p on one place down, so many of them -/
def shf (f : Nat → Int32) (p i : Nat) : Nat → Int32 := fun j => if p ≤ j ∧ j < p + i then f (j + 1) else f j
theorem shf_0 (f : Nat → Int32) (p : Nat) : shf f p 0 = f := by
  funext j
  unfold shf
  rw [if_neg (by omega)]
theorem shf_step (f : Nat → Int32) (p i : Nat) : upd (shf f p i) (p + i) (shf f p i (p + i + 1)) = shf f p (i + 1) := by
  funext j
  unfold upd
  by_cases h : j = p + i
  · rw [if_pos h]
    unfold shf
    rw [if_neg (by omega), if_pos (by omega), h]
  · rw [if_neg h]
    unfold shf
    by_cases h2 : p ≤ j ∧ j < p + i
    · rw [if_pos h2, if_pos (by omega)]
    · rw [if_neg h2, if_neg (by omega)]
theorem x_remove {p : Nat} (hp : p < n) (hn : n ≤ 40) {N : Nat} (hN : 60 < N) : f_Cl_remove N (nI n) xT xK xE xF xL (nI p) = some (nI (n - 1), shf xT p (n - 1 - p), shf xK p (n - 1 - p), shf xE p (n - 1 - p), shf xF p (n - 1 - p), shf xL p (n - 1 - p)) := by
  unfold f_Cl_remove
  refine lp_0 (fun i => (nI (p + 1 + i), shf xT p i, shf xK p i, shf xE p i, shf xF p i, shf xL p i)) (n - 1 - p) ?_ ?_ ?_ (by omega)
  · show _ = (nI (p + 1), shf xT p 0, shf xK p 0, shf xE p 0, shf xF p 0, shf xL p 0)
    rw [nI_succ, shf_0, shf_0, shf_0, shf_0, shf_0]
  · intro i hi
    unfold f_Cl_remove_L4
    have e1 : nI (p + 1 + i) - 1 = nI (p + i) := by rw [show p + 1 + i = p + i + 1 by omega]; exact nI_pred _
    have e2 : ∀ f, rset 40 (shf f p i) (nI (p + i)) (rget 40 (shf f p i) (nI (p + 1 + i))) = shf f p (i + 1) := by
      intro f
      rw [rs (by omega) (by decide), rg (by omega) (by decide), show p + 1 + i = p + i + 1 by omega]
      exact shf_step f p i
    simp only [if_neg (nI_ge (show p + 1 + i < n by omega) (show n < 2 ^ 31 by omega)), e1, e2, ← nI_succ]
    rw [show p + 1 + (i + 1) = p + 1 + i + 1 by omega]
  · unfold f_Cl_remove_L4
    have e1 : nI n - 1 = nI (n - 1) := by
      have := nI_pred (n - 1)
      rw [show n - 1 + 1 = n by omega] at this
      exact this
    simp only [if_pos (nI_le (show n ≤ p + 1 + (n - 1 - p) by omega) (show p + 1 + (n - 1 - p) < 2 ^ 31 by omega)), e1]
theorem cr_remove (hc : CR nt ne n xT xK xE xF xL uK uB uO uR uL) {p : Nat} (hp : p < n) : CR nt ne (n - 1) (shf xT p (n - 1 - p)) (shf xK p (n - 1 - p)) (shf xE p (n - 1 - p)) (shf xF p (n - 1 - p)) (shf xL p (n - 1 - p)) (shf uK p (n - 1 - p)) (shf uB p (n - 1 - p)) (shf uO p (n - 1 - p)) (shf uR p (n - 1 - p)) (shf uL p (n - 1 - p)) := by
  have h0 := hc.1
  refine ⟨by omega, fun j hj => ?_⟩
  by_cases h : p ≤ j ∧ j < p + (n - 1 - p)
  · have e : ∀ f, shf f p (n - 1 - p) j = f (j + 1) := fun f => by unfold shf; rw [if_pos h]
    simp only [e]
    exact hc.2 (j + 1) (by omega)
  · have e : ∀ f, shf f p (n - 1 - p) j = f j := fun f => by unfold shf; rw [if_neg h]
    simp only [e]
    exact hc.2 j (by omega)
end HA
-- the tape
theorem asN (x : Int32) : x = nI x.toBitVec.toNat := by
  apply Int32.toBitVec_inj.mp
  show x.toBitVec = BitVec.ofNat 32 x.toBitVec.toNat
  rw [BitVec.ofNat_toNat, BitVec.setWidth_eq]
theorem and255 (x : Int32) : ∃ b, b < 256 ∧ x &&& 255 = nI b := by
  refine ⟨x.toBitVec.toNat &&& 255, Nat.lt_of_le_of_lt Nat.and_le_right (by decide), ?_⟩
  rw [← q_and, ← asN]
  rfl
theorem sh_byte (p : Int32) (c : UInt32) (k : Int32) {s : Nat} (h1 : (c.toBitVec % 32).toNat = s) (h2 : (k.toBitVec.smod 32).toNat = s) (hs : s ≤ 24) : (p.toUInt32 >>> c).toInt32 &&& 255 = (p >>> k) &&& 255 := by
  apply Int32.toBitVec_inj.mp
  rw [Int32.toBitVec_and, Int32.toBitVec_and, Int32.toBitVec_shiftRight]
  show (p.toBitVec >>> (c.toBitVec % 32)) &&& 255#32 = (p.toBitVec.sshiftRight (k.toBitVec.smod 32).toNat) &&& 255#32
  rw [h2]
  apply BitVec.eq_of_getLsbD_eq
  intro i hi
  rw [BitVec.getLsbD_and, BitVec.getLsbD_and]
  have h255 : ∀ i, i < 32 → (255#32).getLsbD i = decide (i < 8) := by decide +kernel
  rw [h255 i hi]
  by_cases h8 : i < 8
  · rw [BitVec.ushiftRight_eq', h1, BitVec.getLsbD_ushiftRight, BitVec.getLsbD_sshiftRight, if_pos (by omega)]
    rw [decide_eq_false (show ¬ 32 ≤ i by omega)]
    rfl
  · rw [decide_eq_false h8, Bool.and_false, Bool.and_false]
def byt (p : Int32) (r : Nat) : Int32 := (p >>> (nI (24 - 8 * r) &&& 31)) &&& 255
theorem x_append (p : Int32) {s : Nat} (hs : s + 4 ≤ 2000) (t : Nat → Int32) {N : Nat} (hN : 5 < N) : f_Main_appendBytes N (nI s) t p = some (nI (s + 4), fun j => if s ≤ j ∧ j < s + 4 then byt p (j - s) else t j) := by
  have b0 : (p.toUInt32 >>> ((24 : Int32).toUInt32 &&& Int32.toUInt32 31)).toInt32 &&& 255 = byt p 0 := sh_byte p _ _ (s := 24) (by decide) (by decide) (by decide)
  have b1 : (p.toUInt32 >>> ((16 : Int32).toUInt32 &&& Int32.toUInt32 31)).toInt32 &&& 255 = byt p 1 := sh_byte p _ _ (s := 16) (by decide) (by decide) (by decide)
  have b2 : (p.toUInt32 >>> ((8 : Int32).toUInt32 &&& Int32.toUInt32 31)).toInt32 &&& 255 = byt p 2 := sh_byte p _ _ (s := 8) (by decide) (by decide) (by decide)
  have b3 : (p.toUInt32 >>> ((0 : Int32).toUInt32 &&& Int32.toUInt32 31)).toInt32 &&& 255 = byt p 3 := sh_byte p _ _ (s := 0) (by decide) (by decide) (by decide)
  obtain ⟨M, rfl⟩ : ∃ M, N = M + 1 + 1 + 1 + 1 + 1 := ⟨N - 5, by omega⟩
  have s1 : f_Main_appendBytes_L3 p (24, nI s, t) = .inl (16, nI (s + 1), upd t s (byt p 0)) := by
    unfold f_Main_appendBytes_L3
    simp only [if_neg (show ¬ (24 : Int32) < 0 by decide), b0, rs (show s < 2000 by omega) (show 2000 < 2147483648 by decide), ← nI_succ]
    rfl
  have s2 : f_Main_appendBytes_L3 p (16, nI (s + 1), upd t s (byt p 0)) = .inl (8, nI (s + 2), upd (upd t s (byt p 0)) (s + 1) (byt p 1)) := by
    unfold f_Main_appendBytes_L3
    simp only [if_neg (show ¬ (16 : Int32) < 0 by decide), b1, rs (show s + 1 < 2000 by omega) (show 2000 < 2147483648 by decide), ← nI_succ]
    rfl
  have s3 : f_Main_appendBytes_L3 p (8, nI (s + 2), upd (upd t s (byt p 0)) (s + 1) (byt p 1)) = .inl (0, nI (s + 3), upd (upd (upd t s (byt p 0)) (s + 1) (byt p 1)) (s + 2) (byt p 2)) := by
    unfold f_Main_appendBytes_L3
    simp only [if_neg (show ¬ (8 : Int32) < 0 by decide), b2, rs (show s + 2 < 2000 by omega) (show 2000 < 2147483648 by decide), ← nI_succ]
    rfl
  have s4 : f_Main_appendBytes_L3 p (0, nI (s + 3), upd (upd (upd t s (byt p 0)) (s + 1) (byt p 1)) (s + 2) (byt p 2)) = .inl (-8, nI (s + 4), upd (upd (upd (upd t s (byt p 0)) (s + 1) (byt p 1)) (s + 2) (byt p 2)) (s + 3) (byt p 3)) := by
    unfold f_Main_appendBytes_L3
    simp only [if_neg (show ¬ (0 : Int32) < 0 by decide), b3, rs (show s + 3 < 2000 by omega) (show 2000 < 2147483648 by decide), ← nI_succ]
    rfl
  unfold f_Main_appendBytes
  rw [lp_in s1, lp_in s2, lp_in s3, lp_in s4]
  apply lp_out
  unfold f_Main_appendBytes_L3
  simp only [if_pos (show (-8 : Int32) < 0 by decide)]
  congr 3
  funext j
  unfold upd
  by_cases h : s ≤ j ∧ j < s + 4
  · rw [if_pos h]
    have : j = s ∨ j = s + 1 ∨ j = s + 2 ∨ j = s + 3 := by omega
    rcases this with rfl | rfl | rfl | rfl
    · rw [if_neg (by omega), if_neg (by omega), if_neg (by omega), if_pos rfl, show j - j = 0 by omega]
    · rw [if_neg (by omega), if_neg (by omega), if_pos rfl, show s + 1 - s = 1 by omega]
    · rw [if_neg (by omega), if_pos rfl, show s + 2 - s = 2 by omega]
    · rw [if_pos rfl, show s + 3 - s = 3 by omega]
  · rw [if_neg h, if_neg (by omega), if_neg (by omega), if_neg (by omega), if_neg (by omega)]
def five (p1 p2 p3 p4 p5 : Int32) : Nat → Int32
  | 0 => p1
  | 1 => p2
  | 2 => p3
  | 3 => p4
  | _ => p5
def fed (p1 p2 p3 p4 p5 : Int32) (s i : Nat) (t : Nat → Int32) : Nat → Int32 := fun j => if s ≤ j ∧ j < s + i then byt (five p1 p2 p3 p4 p5 ((j - s) / 4)) ((j - s) % 4) else t j
theorem x_feed {s N : Nat} (hs : s + 20 ≤ 2000) (hN : 5 < N) (t : Nat → Int32) (p1 p2 p3 p4 p5 : Int32) : ∃ t2, f_Main_feed N (nI s) t p1 p2 p3 p4 p5 = some (.inl (nI (s + 20), nI (s + 20), t2)) ∧ ∀ j, t2 j = fed p1 p2 p3 p4 p5 s 20 t j := by
  have e1 : nI s + 20 = nI (s + 20) := nI_add s 20
  have h1 : nI (s + 20) ≤ 2000 := nI_le (b := 2000) hs (by decide)
  unfold f_Main_feed
  simp only [e1, if_pos h1, x_append p1 (show s + 4 ≤ 2000 by omega) t hN, oB_s, x_append p2 (show s + 4 + 4 ≤ 2000 by omega) _ hN, x_append p3 (show s + 4 + 4 + 4 ≤ 2000 by omega) _ hN, x_append p4 (show s + 4 + 4 + 4 + 4 ≤ 2000 by omega) _ hN, x_append p5 (show s + 4 + 4 + 4 + 4 + 4 ≤ 2000 by omega) _ hN]
  refine ⟨_, rfl, fun j => ?_⟩
  unfold fed
  by_cases h : s ≤ j ∧ j < s + 20
  · rw [if_pos h]
    have hq : (j - s) / 4 = 0 ∨ (j - s) / 4 = 1 ∨ (j - s) / 4 = 2 ∨ (j - s) / 4 = 3 ∨ (j - s) / 4 = 4 := by omega
    rcases hq with hq | hq | hq | hq | hq
    · rw [if_neg (by omega), if_neg (by omega), if_neg (by omega), if_neg (by omega), if_pos (by omega), hq, show (j - s) % 4 = j - s by omega]; rfl
    · rw [if_neg (by omega), if_neg (by omega), if_neg (by omega), if_pos (by omega), hq, show (j - s) % 4 = j - (s + 4) by omega]; rfl
    · rw [if_neg (by omega), if_neg (by omega), if_pos (by omega), hq, show (j - s) % 4 = j - (s + 4 + 4) by omega]; rfl
    · rw [if_neg (by omega), if_pos (by omega), hq, show (j - s) % 4 = j - (s + 4 + 4 + 4) by omega]; rfl
    · rw [if_pos (by omega), hq, show (j - s) % 4 = j - (s + 4 + 4 + 4 + 4) by omega]; rfl
  · rw [if_neg h, if_neg (by omega), if_neg (by omega), if_neg (by omega), if_neg (by omega), if_neg (by omega)]
theorem i4 : ∀ i, i < 20 → nI i / 4 = nI (i / 4) ∧ ((24 : Int32) - 8 * (nI i - nI i / 4 * 4)) &&& 31 = nI (24 - 8 * (i % 4)) &&& 31 := by decide +kernel
theorem five_at (p1 p2 p3 p4 p5 : Int32) {k : Nat} (hk : k < 5) : upd (upd (upd (upd (upd (fun _ => (0 : Int32)) (0 : Int32).toNatClampNeg p1) (1 : Int32).toNatClampNeg p2) (2 : Int32).toNatClampNeg p3) (3 : Int32).toNatClampNeg p4) (4 : Int32).toNatClampNeg p5 k = five p1 p2 p3 p4 p5 k := by
  have : k = 0 ∨ k = 1 ∨ k = 2 ∨ k = 3 ∨ k = 4 := by omega
  rcases this with rfl | rfl | rfl | rfl | rfl <;> rfl
theorem fed_byte (p1 p2 p3 p4 p5 : Int32) {s j : Nat} {t u : Nat → Int32} (ht : ∀ j, j < s → t j = u j ∧ ∃ b, b < 256 ∧ u j = nI b) (hj : j < s + 20) : fed p1 p2 p3 p4 p5 s 20 t j = fed p1 p2 p3 p4 p5 s 20 u j ∧ ∃ b, b < 256 ∧ fed p1 p2 p3 p4 p5 s 20 u j = nI b := by
  unfold fed
  by_cases h : s ≤ j ∧ j < s + 20
  · rw [if_pos h, if_pos h]
    exact ⟨rfl, and255 _⟩
  · rw [if_neg h, if_neg h]
    exact ht j (by omega)
