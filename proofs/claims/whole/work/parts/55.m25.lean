/-! WHAT LIES WHERE: the numbers alone -/
def updL (L : Nat → Option Nat) (b : Nat) (v : Option Nat) : Nat → Option Nat := fun j => if j = b then v else L j
theorem updL_eq {L : Nat → Option Nat} {b : Nat} {v : Option Nat} : updL L b v b = v := if_pos rfl
theorem updL_ne {L : Nat → Option Nat} {b j : Nat} {v : Option Nat} (h : j ≠ b) : updL L b v j = L j := if_neg h
theorem updL_self {L : Nat → Option Nat} {b : Nat} : updL L b (L b) = L := by
  funext j
  unfold updL
  split
  · rename_i e; rw [e]
  · rfl
def LB (P : Nat → Nat → Int32) (L : Nat → Option Nat) (B : Nat) : Prop := ∀ b, b < 12 → ∀ x, L b = some x → x + zS P b ≤ B
theorem LB_mono {P : Nat → Nat → Int32} {L : Nat → Option Nat} {B C : Nat} (h : LB P L B) (hc : B ≤ C) : LB P L C := fun b hb x hx => Nat.le_trans (h b hb x hx) hc
theorem LB_upd {P : Nat → Nat → Int32} {L : Nat → Option Nat} {B b : Nat} {v : Option Nat} (h : LB P L B) (hv : ∀ x, v = some x → x + zS P b ≤ B) : LB P (updL L b v) B := by
  intro c hc x hx
  by_cases e : c = b
  · subst e
    rw [updL_eq] at hx
    exact hv x hx
  · rw [updL_ne e] at hx
    exact h c hc x hx
/-- the greatest upper end -/
def tpF (P : Nat → Nat → Int32) (L : Nat → Option Nat) : Nat → Nat
  | 0 => 0
  | b + 1 => match L b with
    | none => tpF P L b
    | some x => if tpF P L b < x + zS P b then x + zS P b else tpF P L b
theorem tpF_le {P : Nat → Nat → Int32} {L : Nat → Option Nat} {B : Nat} (h : LB P L B) : ∀ {n : Nat}, n ≤ 12 → tpF P L n ≤ B := by
  intro n
  induction n with
  | zero => exact fun _ => Nat.zero_le _
  | succ n ih =>
    intro hn
    have := ih (by omega)
    rw [tpF]
    cases hx : L n with
    | none => exact this
    | some x =>
      have := h n (by omega) x hx
      simp only
      split <;> omega
/-- the next cell at or above one from which something lies -/
def nxB (P : Nat → Nat → Int32) (x b y : Nat) (acc : Option Nat) : Bool := decide (x ≤ y) && (decide (0 < zS P b) && (match acc with
  | none => true
  | some z => decide (y < z)))
def nxF (P : Nat → Nat → Int32) (L : Nat → Option Nat) (x : Nat) : Nat → Option Nat
  | 0 => none
  | b + 1 => match L b with
    | none => nxF P L x b
    | some y => if nxB P x b y (nxF P L x b) = true then some y else nxF P L x b
theorem nxF_ok {P : Nat → Nat → Int32} {L : Nat → Option Nat} {x : Nat} : ∀ {n y : Nat}, nxF P L x n = some y → x ≤ y ∧ ∃ b, b < n ∧ L b = some y ∧ 0 < zS P b := by
  intro n
  induction n with
  | zero => intro y e; cases e
  | succ n ih =>
    intro y e
    rw [nxF] at e
    cases hx : L n with
    | none =>
      rw [hx] at e
      obtain ⟨h1, b, h2, h3⟩ := ih e
      exact ⟨h1, b, by omega, h3⟩
    | some z =>
      rw [hx] at e
      simp only at e
      split at e
      · rename_i hb
        cases e
        unfold nxB at hb
        rw [Bool.and_eq_true, Bool.and_eq_true] at hb
        exact ⟨of_decide_eq_true hb.1, n, by omega, hx, of_decide_eq_true hb.2.1⟩
      · obtain ⟨h1, b, h2, h3⟩ := ih e
        exact ⟨h1, b, by omega, h3⟩
/-- the least one of all -/
theorem nxF_min {P : Nat → Nat → Int32} {L : Nat → Option Nat} {x : Nat} : ∀ {n b z : Nat}, b < n → L b = some z → x ≤ z → 0 < zS P b → ∃ y, nxF P L x n = some y ∧ y ≤ z := by
  intro n
  induction n with
  | zero => intro b z hb; omega
  | succ n ih =>
    intro b z hb hL hx hz
    rw [nxF]
    by_cases e : b = n
    · subst e
      rw [hL]
      simp only
      cases hq : nxF P L x b with
      | none =>
        have : nxB P x b z none = true := by unfold nxB; simp [hx, hz]
        rw [if_pos this]
        exact ⟨z, rfl, Nat.le_refl _⟩
      | some w =>
        by_cases h1 : z < w
        · have : nxB P x b z (some w) = true := by unfold nxB; simp [hx, hz, h1]
          rw [if_pos this]
          exact ⟨z, rfl, Nat.le_refl _⟩
        · have : ¬ nxB P x b z (some w) = true := by unfold nxB; simp [h1]
          rw [if_neg this]
          exact ⟨w, rfl, by omega⟩
    · obtain ⟨y, h1, h2⟩ := ih (show b < n by omega) hL hx hz
      rw [h1]
      cases hq : L n with
      | none => exact ⟨y, rfl, h2⟩
      | some w =>
        simp only
        split
        · rename_i hb
          unfold nxB at hb
          rw [Bool.and_eq_true, Bool.and_eq_true] at hb
          have := of_decide_eq_true hb.2.2
          exact ⟨w, rfl, by omega⟩
        · exact ⟨y, rfl, h2⟩
/-- the upper end of what lies from a cell on -/
def enF (P : Nat → Nat → Int32) (L : Nat → Option Nat) (x : Nat) : Nat → Nat
  | 0 => x
  | b + 1 => if (L b == some x && decide (enF P L x b < x + zS P b)) = true then x + zS P b else enF P L x b
theorem enF_le {P : Nat → Nat → Int32} {L : Nat → Option Nat} {x B : Nat} (h : LB P L B) (hx : x ≤ B) : ∀ {n : Nat}, n ≤ 12 → enF P L x n ≤ B := by
  intro n
  induction n with
  | zero => exact fun _ => hx
  | succ n ih =>
    intro hn
    rw [enF]
    split
    · rename_i hb
      rw [Bool.and_eq_true] at hb
      exact h n (by omega) x (eq_of_beq hb.1)
    · exact ih (by omega)
theorem enF_ge {P : Nat → Nat → Int32} {L : Nat → Option Nat} {x : Nat} : ∀ {n : Nat}, x ≤ enF P L x n := by
  intro n
  induction n with
  | zero => exact Nat.le_refl _
  | succ n ih =>
    rw [enF]
    split
    · omega
    · exact ih
theorem enF_gb {P : Nat → Nat → Int32} {L : Nat → Option Nat} {x b : Nat} (hL : L b = some x) : ∀ {n : Nat}, b < n → x + zS P b ≤ enF P L x n := by
  intro n
  induction n with
  | zero => intro hb; omega
  | succ n ih =>
    intro hb
    rw [enF]
    by_cases e : b = n
    · subst e
      split
      · exact Nat.le_refl _
      · rename_i h
        rw [hL, Bool.and_eq_true] at h
        have : ¬ enF P L x b < x + zS P b := fun q => h ⟨beq_self_eq_true _, decide_eq_true q⟩
        omega
    · have := ih (by omega)
      split
      · rename_i h
        rw [Bool.and_eq_true] at h
        have := of_decide_eq_true h.2
        omega
      · exact this
/-- how many lie from a cell on -/
def cnF (P : Nat → Nat → Int32) (L : Nat → Option Nat) (x : Nat) : Nat → Nat
  | 0 => 0
  | b + 1 => cnF P L x b + (match L b with
    | none => 0
    | some y => if x ≤ y ∧ 0 < zS P b then 1 else 0)
theorem cnF_le {P : Nat → Nat → Int32} {L : Nat → Option Nat} {x : Nat} : ∀ {n : Nat}, cnF P L x n ≤ n := by
  intro n
  induction n with
  | zero => exact Nat.le_refl _
  | succ n ih =>
    rw [cnF]
    cases L n with
    | none => exact Nat.le_succ_of_le ih
    | some y =>
      simp only
      split <;> omega
theorem cnF_mono {P : Nat → Nat → Int32} {L : Nat → Option Nat} {x z : Nat} (h : x ≤ z) : ∀ {n : Nat}, cnF P L z n ≤ cnF P L x n := by
  intro n
  induction n with
  | zero => exact Nat.le_refl _
  | succ n ih =>
    rw [cnF, cnF]
    cases L n with
    | none => exact ih
    | some y =>
      simp only
      split <;> split <;> omega
theorem cnF_lt {P : Nat → Nat → Int32} {L : Nat → Option Nat} {x z b y : Nat} (h : x ≤ z) (hL : L b = some y) (h1 : x ≤ y) (h2 : y < z) (h3 : 0 < zS P b) : ∀ {n : Nat}, b < n → cnF P L z n < cnF P L x n := by
  intro n
  induction n with
  | zero => intro hb; omega
  | succ n ih =>
    intro hb
    rw [cnF, cnF]
    by_cases e : b = n
    · subst e
      have := cnF_mono (P := P) (L := L) h (n := b)
      rw [hL]
      simp only
      rw [if_neg (by omega), if_pos ⟨h1, h3⟩]
      omega
    · have := ih (by omega)
      cases L n with
      | none => exact this
      | some y =>
        simp only
        split <;> split <;> omega
theorem cnF_nx {P : Nat → Nat → Int32} {L : Nat → Option Nat} {x y : Nat} (h : nxF P L x 12 = some y) : cnF P L (enF P L y 12) 12 < cnF P L x 12 := by
  obtain ⟨h1, b, h2, h3, h4⟩ := nxF_ok h
  have := enF_gb (P := P) h3 h2
  exact cnF_lt (by omega) h3 h1 (by omega) h4 h2
theorem cnF_0 {P : Nat → Nat → Int32} {L : Nat → Option Nat} {x : Nat} (h : cnF P L x 12 = 0) : nxF P L x 12 = none := by
  cases hq : nxF P L x 12 with
  | none => rfl
  | some y => have := cnF_nx hq; omega
/-- is a HOLE of n cells better than the one that was chosen -/
def hlB (rl : Nat) (acc : Option (Nat × Nat)) (n : Nat) : Bool := match acc with
  | none => true
  | some a => (rl == 1 && decide (n < a.2)) || (rl == 2 && decide (a.2 < n))
def hlS (rl sz x n : Nat) (acc : Option (Nat × Nat)) : Option (Nat × Nat) := if (decide (0 < n) && (decide (sz ≤ n) && hlB rl acc n)) = true then some (x, n) else acc
def puE (acc : Option (Nat × Nat)) (x : Nat) : Nat := match acc with
  | none => x
  | some a => a.1
def puF (P : Nat → Nat → Int32) (L : Nat → Option Nat) (sz rl : Nat) : Nat → Option (Nat × Nat) → Nat → Nat
  | 0, acc, x => puE acc x
  | f + 1, acc, x => match nxF P L x 12 with
    | none => puE acc x
    | some y => puF P L sz rl f (hlS rl sz x (y - x) acc) (enF P L y 12)
/-- where a BUFFER is laid -/
def puR (P : Nat → Nat → Int32) (L : Nat → Option Nat) (rl b : Nat) : Nat := puF P L (zS P b) rl 12 none 0
def acB (acc : Option (Nat × Nat)) (B : Nat) : Prop := ∀ a, acc = some a → a.1 ≤ B ∧ a.2 ≤ B
theorem acB_hlS {rl sz x n B : Nat} {acc : Option (Nat × Nat)} (h : acB acc B) (hx : x ≤ B) (hn : n ≤ B) : acB (hlS rl sz x n acc) B := by
  unfold hlS
  split
  · intro a e; cases e; exact ⟨hx, hn⟩
  · exact h
theorem puF_le {P : Nat → Nat → Int32} {L : Nat → Option Nat} {sz rl B : Nat} (h : LB P L B) : ∀ {f x : Nat} {acc : Option (Nat × Nat)}, acB acc B → x ≤ B → puF P L sz rl f acc x ≤ B := by
  intro f
  induction f with
  | zero =>
    intro x acc ha hx
    rw [puF]
    unfold puE
    cases acc with
    | none => exact hx
    | some a => exact (ha a rfl).1
  | succ f ih =>
    intro x acc ha hx
    rw [puF]
    cases hq : nxF P L x 12 with
    | none =>
      unfold puE
      cases acc with
      | none => exact hx
      | some a => exact (ha a rfl).1
    | some y =>
      obtain ⟨h1, b, h2, h3, h4⟩ := nxF_ok hq
      have := h b h2 y h3
      exact ih (acB_hlS ha hx (by omega)) (enF_le h (by omega) (Nat.le_refl 12))
theorem puR_le {P : Nat → Nat → Int32} {L : Nat → Option Nat} {rl b B : Nat} (h : LB P L B) : puR P L rl b ≤ B := puF_le h (fun a e => by cases e) (Nat.zero_le _)
/-- the heap that shows what lies where, HIGH, the place -/
def flX (a f kh kp : Nat) (h : abH) (L : Nat → Option Nat) (hi p : Nat) : abH := pI (pI (pA h a (pre (fun b => oI (L b)) 12 (gI h a))) f kh (nI hi)) f kp (nI p)
theorem flX_L {a f kh kp : Nat} {h : abH} {L : Nat → Option Nat} {hi p b : Nat} (haf : a ≠ f) (hb : b < 12) : gI (flX a f kh kp h L hi p) a b = oI (L b) := by
  unfold flX
  rw [pI_def, gI_ne haf, pI_def, gI_ne haf, gI_eq, pre_in hb]
theorem flX_p {a f kh kp : Nat} {h : abH} {L : Nat → Option Nat} {hi p : Nat} : gI (flX a f kh kp h L hi p) f kp = nI p := by
  unfold flX
  rw [pI_def, gI_eq, upd_eq]
theorem flX_h {a f kh kp : Nat} {h : abH} {L : Nat → Option Nat} {hi p : Nat} (hk : kh ≠ kp) : gI (flX a f kh kp h L hi p) f kh = nI hi := by
  unfold flX
  rw [pI_def, gI_eq, upd_ne hk, pI_def, gI_eq, upd_eq]
theorem flX_k {a f kh kp k : Nat} {h : abH} {L : Nat → Option Nat} {hi p : Nat} (haf : a ≠ f) (h1 : k ≠ kh) (h2 : k ≠ kp) : gI (flX a f kh kp h L hi p) f k = gI h f k := by
  unfold flX
  rw [pI_def, gI_eq, upd_ne h2, pI_def, gI_eq, upd_ne h1, gI_ne (fun e => haf e.symm)]
theorem flX_o {a f kh kp o : Nat} {h : abH} {L : Nat → Option Nat} {hi p : Nat} (h1 : o ≠ a) (h2 : o ≠ f) : gI (flX a f kh kp h L hi p) o = gI h o := by
  unfold flX
  rw [pI_def, gI_ne h2, pI_def, gI_ne h2, gI_ne h1]
theorem flX_T {a f kh kp : Nat} {h : abH} {L : Nat → Option Nat} {hi p : Nat} : (flX a f kh kp h L hi p).1 = h.1 := rfl
theorem flX_R {a f kh kp : Nat} {h : abH} {L : Nat → Option Nat} {hi p : Nat} : (flX a f kh kp h L hi p).2.2 = h.2.2 := rfl
theorem flX_start {a f kh kp : Nat} {h : abH} {L : Nat → Option Nat} {hi p : Nat} (hL : ∀ b, b < 12 → gI h a b = oI (L b)) (h1 : gI h f kh = nI hi) (h2 : gI h f kp = nI p) : flX a f kh kp h L hi p = h := by
  unfold flX
  have e : pre (fun b => oI (L b)) 12 (gI h a) = gI h a := by
    funext j
    by_cases hj : j < 12
    · rw [pre_in hj, hL j hj]
    · rw [pre_out hj]
  rw [e, pA_self, ← h1, pI_self, ← h2, pI_self]
theorem pre_updL {L : Nat → Option Nat} {b : Nat} {v : Option Nat} {g : Nat → Int32} (hb : b < 12) : upd (pre (fun b => oI (L b)) 12 g) b (oI v) = pre (fun c => oI (updL L b v c)) 12 g := by
  funext j
  by_cases e : j = b
  · subst e
    rw [upd_eq, pre_in hb, updL_eq]
  · rw [upd_ne e]
    by_cases hj : j < 12
    · rw [pre_in hj, pre_in hj, updL_ne e]
    · rw [pre_out hj, pre_out hj]
theorem flX_wL {a f kh kp : Nat} {h : abH} {L : Nat → Option Nat} {hi p b : Nat} {v : Option Nat} {x : Int32} (haf : a ≠ f) (hb : b < 12) (hx : x = oI v) : pI (flX a f kh kp h L hi p) a b x = flX a f kh kp h (updL L b v) hi p := by
  subst hx
  unfold flX
  simp only [pI_def, gI_eq, gI_ne haf, gI_ne (Ne.symm haf), pA_comm (Ne.symm haf), pA_pA, pre_updL hb]
theorem flX_wp {a f kh kp : Nat} {h : abH} {L : Nat → Option Nat} {hi p q : Nat} : pI (flX a f kh kp h L hi p) f kp (nI q) = flX a f kh kp h L hi q := by
  unfold flX
  rw [pI_pI]
theorem upd_comm {f : Nat → Int32} {i j : Nat} {x y : Int32} (h : i ≠ j) : upd (upd f i x) j y = upd (upd f j y) i x := by
  funext k
  by_cases e1 : k = i
  · subst e1
    rw [upd_ne h, upd_eq, upd_eq]
  · by_cases e2 : k = j
    · subst e2
      rw [upd_eq, upd_ne e1, upd_eq]
    · rw [upd_ne e2, upd_ne e1, upd_ne e1, upd_ne e2]
theorem flX_wh {a f kh kp : Nat} {h : abH} {L : Nat → Option Nat} {hi p q : Nat} (hk : kh ≠ kp) : pI (flX a f kh kp h L hi p) f kh (nI q) = flX a f kh kp h L q p := by
  unfold flX
  simp only [pI_def, gI_eq, pA_pA]
  rw [upd_comm (Ne.symm hk), upd_upd]
/-! one STEP as one goes -/
/-- the BUFFERS that are laid ahead of all -/
def gvB (P : Nat → Nat → Int32) (o : Nat → Nat) (b : Nat) : Bool := P 68 b != 0 && ((mWr P b).isNone && (ti P o b).isSome)
def gvF (P : Nat → Nat → Int32) (o : Nat → Nat) (L : Nat → Option Nat) (rl : Nat) : Nat → Nat → Option Nat
  | 0 => L
  | b + 1 => if gvB P o b = true then updL (gvF P o L rl b) b (some (puR P (gvF P o L rl b) rl b)) else gvF P o L rl b
def wrL (P : Nat → Nat → Int32) (L : Nat → Option Nat) (rl w : Nat) (ov : Option Nat) : Nat → Option Nat := match ov with
  | none => updL L w (some (puR P L rl w))
  | some v => if zS P v < zS P w then updL L w (some (puR P L rl w)) else updL (updL L w (L v)) v none
def reL (P : Nat → Nat → Int32) (o : Nat → Nat) (L : Nat → Option Nat) (p : Nat) : Nat → Option Nat := fun b => match ti P o b with
  | none => none
  | some t => if p < t then L b else none
def stL (P : Nat → Nat → Int32) (o : Nat → Nat) (rl : Nat) (L : Nat → Option Nat) (p : Nat) : Nat → Option Nat := wrL P (if p = 0 then gvF P o L rl 12 else L) rl (nWt P (o p)) (mOv P o p)
def stH (P : Nat → Nat → Int32) (o : Nat → Nat) (rl : Nat) (L : Nat → Option Nat) (hi p : Nat) : Nat := if hi < tpF P (stL P o rl L p) 12 + zC P (o p) then tpF P (stL P o rl L p) 12 + zC P (o p) else hi
/-- n STEPS: what lies, HIGH -/
def goF (P : Nat → Nat → Int32) (o : Nat → Nat) (rl : Nat) (L : Nat → Option Nat) (hi p : Nat) : Nat → (Nat → Option Nat) × Nat
  | 0 => (L, hi)
  | n + 1 => (reL P o (stL P o rl (goF P o rl L hi p n).1 (p + n)) (p + n), stH P o rl (goF P o rl L hi p n).1 (goF P o rl L hi p n).2 (p + n))
theorem gvF_le {P : Nat → Nat → Int32} (V : okP P) {o : Nat → Nat} {L : Nat → Option Nat} {rl B : Nat} (h : LB P L B) : ∀ {n : Nat}, n ≤ 12 → LB P (gvF P o L rl n) (B + 39204 * n) := by
  intro n
  induction n with
  | zero => exact fun _ => h
  | succ n ih =>
    intro hn
    have h1 := ih (by omega)
    rw [gvF]
    split
    · refine LB_upd (LB_mono h1 (by omega)) (fun x hx => ?_)
      cases hx
      have := puR_le h1 (rl := rl) (b := n)
      have := (zS_ok V (show n < 12 by omega)).2
      omega
    · exact LB_mono h1 (by omega)
theorem wrL_le {P : Nat → Nat → Int32} (V : okP P) {L : Nat → Option Nat} {rl w B : Nat} {ov : Option Nat} (hw : w < 12) (hv : ∀ v, ov = some v → v < 12) (h : LB P L B) : LB P (wrL P L rl w ov) (B + 39204) := by
  have hp : LB P (updL L w (some (puR P L rl w))) (B + 39204) := LB_upd (LB_mono h (by omega)) (fun x hx => by
    cases hx
    have := puR_le h (rl := rl) (b := w)
    have := (zS_ok V hw).2
    omega)
  unfold wrL
  cases ov with
  | none => exact hp
  | some v =>
    simp only
    split
    · exact hp
    · refine LB_upd (LB_upd (LB_mono h (by omega)) (fun x hx => ?_)) (fun x hx => by cases hx)
      have := h v (hv v rfl) x hx
      omega
theorem reL_le {P : Nat → Nat → Int32} {o : Nat → Nat} {L : Nat → Option Nat} {p B : Nat} (h : LB P L B) : LB P (reL P o L p) B := by
  intro b hb x hx
  unfold reL at hx
  cases ht : ti P o b with
  | none => rw [ht] at hx; cases hx
  | some t =>
    rw [ht] at hx
    simp only at hx
    split at hx
    · exact h b hb x hx
    · cases hx
/-- what holds at a place -/
def flK (P : Nat → Nat → Int32) (L : Nat → Option Nat) (hi p : Nat) : Prop := (p = 0 → ∀ b, b < 12 → L b = none) ∧ LB P L (39204 * (12 + p)) ∧ hi ≤ 1100000
theorem stL_le {P : Nat → Nat → Int32} (V : okP P) {o : Nat → Nat} {rl hi p : Nat} {L : Nat → Option Nat} (hp : o p < nS P) (K : flK P L hi p) : LB P (stL P o rl L p) (39204 * (12 + (p + 1))) := by
  have hw := (V.w hp).2
  have hov : ∀ v, mOv P o p = some v → v < 12 := fun v hv => (mOvN_ok hv).1
  unfold stL
  by_cases h0 : p = 0
  · rw [if_pos h0]
    have hl : LB P L 0 := fun b hb x hx => by rw [K.1 h0 b hb] at hx; cases hx
    have := wrL_le V (rl := rl) hw hov (gvF_le V (o := o) (rl := rl) hl (Nat.le_refl 12))
    exact LB_mono this (by omega)
  · rw [if_neg h0]
    exact LB_mono (wrL_le V hw hov K.2.1) (by omega)
theorem flK_step {P : Nat → Nat → Int32} (V : okP P) {o : Nat → Nat} {rl hi p : Nat} {L : Nat → Option Nat} (hp : p < nS P) (hop : o p < nS P) (K : flK P L hi p) : flK P (reL P o (stL P o rl L p) p) (stH P o rl L hi p) (p + 1) := by
  have h1 := stL_le V (rl := rl) hop K
  have s10 := V.s.1
  refine ⟨fun h => by omega, reL_le h1, ?_⟩
  have h2 := tpF_le h1 (Nat.le_refl 12)
  have h3 := (zC_ok V hop).2
  have h4 := K.2.2
  unfold stH
  split <;> omega
theorem goF_ok {P : Nat → Nat → Int32} (V : okP P) {o : Nat → Nat} {rl hi p : Nat} {L : Nat → Option Nat} (ho : ∀ k, k < nS P → o k < nS P) (K : flK P L hi p) : ∀ {n : Nat}, p + n ≤ nS P → flK P (goF P o rl L hi p n).1 (goF P o rl L hi p n).2 (p + n) := by
  intro n
  induction n with
  | zero => exact fun _ => K
  | succ n ih =>
    intro hn
    exact flK_step V (show p + n < nS P by omega) (ho _ (by omega)) (ih (by omega))
