/-! THE STATE that both speak of, and every answer -/
/-- hearers: number, kind, fact, value, changes -/
abbrev Hr : Type := Nat × (Nat → Nat) × (Nat → Nat) × (Nat → Nat) × (Nat → Int32)
abbrev Tl : Type := Nat × (Nat → Nat)
/-- (world, rounds, times said, times added), page, senses, saying, other, hearers, told, image (kept, world, rounds, hearers, told) -/
abbrev AS : Type := (Nat × Int32 × Int32 × Nat) × (Nat × (Nat → Int32)) × (Nat → Nat) × Sy × Sy × Hr × Tl × (Bool × Nat × Int32 × Hr × Tl)
def HrW (h : Hc) (y : Hr) : Prop := h.1 = nI y.1 ∧ y.1 ≤ 4 ∧ ∀ k, k < y.1 → (h.2.1 k = nI (y.2.1 k) ∧ y.2.1 k ≤ 4) ∧ (h.2.2.1 k = nI (y.2.2.1 k) ∧ y.2.2.1 k < 6) ∧ (h.2.2.2.1 k = nI (y.2.2.2.1 k) ∧ y.2.2.2.1 k < 2) ∧ h.2.2.2.2 k = y.2.2.2.2 k
def TlW (t : Tc) (y : Tl) : Prop := t.1 = nI y.1 ∧ y.1 ≤ 6 ∧ ∀ k, k < y.1 → t.2 k = nI (y.2 k) ∧ y.2 k < 64
def R0 (m : Int32 × Int32 × Int32 × Int32) (s : Nat × Int32 × Int32 × Nat) : Prop := (m.1 = nI s.1 ∧ s.1 < 64) ∧ m.2.1 = s.2.1 ∧ m.2.2.1 = s.2.2.1 ∧ m.2.2.2 = nI s.2.2.2 ∧ s.2.2.2 ≤ 60
def RP (p : Pc) (s : Nat × (Nat → Int32)) : Prop := p = (nI s.1, s.2) ∧ s.1 ≤ 14 ∧ ∀ k, k < s.1 → 32 ≤ s.2 k ∧ s.2 k ≤ 126
def RI (im : Int32 × Int32 × Int32) (ih : Hc) (it : Tc) (s : Bool × Nat × Int32 × Hr × Tl) : Prop := im.1 = bi s.1 ∧ (im.2.1 = nI s.2.1 ∧ s.2.1 < 64) ∧ im.2.2 = s.2.2.1 ∧ HrW ih s.2.2.2.1 ∧ TlW it s.2.2.2.2
def RX (x : Xc) (S : AS) : Prop := R0 x.1 S.1 ∧ RP x.2.1 S.2.1 ∧ SnW x.2.2.1 S.2.2.1 ∧ SyA x.2.2.2.1 S.2.2.1 S.2.2.2.1 ∧ SyA x.2.2.2.2.1 S.2.2.1 S.2.2.2.2.1 ∧ HrW x.2.2.2.2.2.2.1 S.2.2.2.2.2.1 ∧ TlW x.2.2.2.2.2.2.2.1 S.2.2.2.2.2.2.1 ∧ RI x.2.2.2.2.2.2.2.2.1 x.2.2.2.2.2.2.2.2.2.1 x.2.2.2.2.2.2.2.2.2.2 S.2.2.2.2.2.2.2
/-! worlds -/
def wN (w f v : Nat) : Nat := (w - w / 2 ^ f % 2 * 2 ^ f) + v * 2 ^ f
def fl (w f : Nat) : Nat := w ^^^ 2 ^ f
def bitN (w f : Nat) : Nat := w / 2 ^ f % 2
theorem wN_ok : ∀ w, w < 64 → ∀ f, f < 6 → ∀ v, v < 2 → nI w &&& (((1 : Int32) <<< (nI f &&& 31)) ^^^ (-1)) ||| nI v <<< (nI f &&& 31) = nI (wN w f v) ∧ wN w f v < 64 := by decide +kernel
theorem fl_ok : ∀ w, w < 64 → ∀ f, f < 6 → nI w ^^^ ((1 : Int32) <<< (nI f &&& 31)) = nI (fl w f) ∧ fl w f < 64 := by decide +kernel
theorem bitN_ok : ∀ w, w < 64 → ∀ f, f < 6 → (((nI w).toInt64.toUInt64 >>> ((nI f).toInt64.toUInt64 &&& Int64.toUInt64 63)).toInt64 &&& 1).toInt32 = nI (bitN w f) := by decide +kernel
theorem bitN_ok2 : ∀ w, w < 64 → ∀ f, f < 6 → (nI w >>> (nI f &&& 31)) &&& 1 = nI (bitN w f) := by decide +kernel
theorem bitN_lt (w f : Nat) : bitN w f < 2 := Nat.mod_lt _ (by decide)
/-! hearers -/
def tk (z : Nat → Nat) (y : Sy) (kind : Nat) : Nat := if kind = 1 then NR y - 1 else if kind = 2 then mx (fun r => pcn (TR z y r)) (NR y) else if kind = 3 ∨ kind = 4 then mn (fun r => pcn (TR z y r)) (NR y) else 0
def tkI (z : Nat → Nat) (y : Sy) (kind : Nat) : Int32 := if y.1 = 0 then -1 else nI (tk z y kind)
def ac (kind : Nat) (x : Int64) (w : Nat) : Bool := if kind = 4 then tb x w else !tb x w
def bh (h : Hr) (p : Nat) (x : Int64) (w : Nat) : Nat := if ac (h.2.1 p) x w = true then wN w (h.2.2.1 p) (h.2.2.2.1 p) else w
def bR (z : Nat → Nat) (y : Sy) (h : Hr) : Nat → Nat → Nat
  | 0, w => w
  | n + 1, w => bh h n (TR z y (tk z y (h.2.1 n))) (bR z y h n w)
/-- one acts: the world, how often his fact changed by each -/
def aw (z : Nat → Nat) (y : Sy) (h : Hr) (p w : Nat) : Nat := bh h p (TR z y (tk z y (h.2.1 p))) w
def ach (z : Nat → Nat) (y : Sy) (h : Hr) (p w : Nat) (c : Nat → Int32) : Nat → Int32 := if aw z y h p w = w then c else upd c p (c p + 1)
def rw2 (z : Nat → Nat) (y : Sy) (h : Hr) (w : Nat) : Nat → Nat × (Nat → Int32)
  | 0 => (w, h.2.2.2.2)
  | n + 1 => (aw z y h n (rw2 z y h w n).1, ach z y h n (rw2 z y h w n).1 (rw2 z y h w n).2)
def som (z : Nat → Nat) (y : Sy) : Int64 := orN (TR z y) (NR y)
/-! what would be -/
def wl (z : Nat → Nat) (y o : Sy) : Int64 := if o.1 = 0 then som z y else som z y &&& som z o
def fB (q : Nat → Bool) : Nat → Nat
  | 0 => 0
  | n + 1 => fB q n + (if q n = true then 2 ^ n else 0)
def lw (x : Int64) (f : Nat) : Nat := max (pcn (x &&& Wf f)) (pcn (x &&& (Wf f ^^^ (-1))))
def yw (y : Sy) (c : Nat) : Sy := (y.1 + 1, fun k => if k = y.1 then c % 6 else y.2.1 k, fun k => if k = y.1 then decide (6 ≤ c % 12) else y.2.2.1 k, fun k => if k = y.1 then decide (12 ≤ c) else y.2.2.2 k)
def rwt (z : Nat → Nat) (y : Sy) (w c : Nat) : Nat := cn (fun r => tb (TR z (yw y c) r) w) (NR (yw y c))
def fitB (h : Hr) (t : Tl) (p : Nat) (x : Int64) : Bool := decide (fp (fun k => decide (bh h p x (t.2 k) = t.2 (k + 1))) (t.1 - 1) = t.1 - 1)
def nx (s : Nat) : Nat := (1103515245 * s + 12345) % 2147483648
def dr (s d : Nat) : Nat := s / 65536 % d
/-- times: the world, the seed, how often -/
def tm (z : Nat → Nat) (y : Sy) (h : Hr) (w s : Nat) : Nat → Nat × Nat × Nat
  | 0 => (w, s, 0)
  | n + 1 =>
    if dr (nx (tm z y h w s n).2.1) 2 = 0 then (bR z y h h.1 (tm z y h w s n).1, nx (tm z y h w s n).2.1, (tm z y h w s n).2.2 + (if tb (som z y) (bR z y h h.1 (tm z y h w s n).1) = true then 1 else 0))
    else (fl (tm z y h w s n).1 (dr (nx (nx (tm z y h w s n).2.1)) 6), nx (nx (tm z y h w s n).2.1), (tm z y h w s n).2.2 + (if tb (som z y) (fl (tm z y h w s n).1 (dr (nx (nx (tm z y h w s n).2.1)) 6)) = true then 1 else 0))
/-! answers (A) and states (N) -/
abbrev okF (p : Int32) : Prop := 0 ≤ p ∧ p < 6
abbrev okW (p : Int32) : Prop := 0 ≤ p ∧ p < 64
abbrev okV (p : Int32) : Prop := p = 0 ∨ p = 1
abbrev ok1 (p : Int32) : Prop := 0 ≤ p ∧ p ≤ 1
abbrev ok2 (p : Int32) : Prop := 0 ≤ p ∧ p ≤ 2
abbrev okK (p : Int32) : Prop := 0 ≤ p ∧ p ≤ 4
abbrev okH (h : Hr) (p : Int32) : Prop := 0 ≤ p ∧ p < nI h.1
abbrev okR (y : Sy) (p : Int32) : Prop := 0 ≤ p ∧ p < nI (NR y)
def A_letter (pn : Nat) (c : Int32) : Int32 := if 32 ≤ c ∧ c ≤ 126 then (if pn < 14 then nI (pn + 1) else -104) else -102
def N_letter (pg : Nat × (Nat → Int32)) (c : Int32) : Nat × (Nat → Int32) := if (32 ≤ c ∧ c ≤ 126) ∧ pg.1 < 14 then (pg.1 + 1, upd pg.2 pg.1 c) else pg
def A_fault (pg : Nat × (Nat → Int32)) (c : Int32) : Int32 := if c = 0 then nI (fsay pg.2 pg.1) else if c = 1 then nI (fsen pg.2 pg.1) else -102
def A_say (pg : Nat × (Nat → Int32)) : Int32 := if isSay pg.2 pg.1 = true then nI (NR (pr pg.2 pg.1).2) else -103
def zOf (cs : Nat → Int32) (k : Nat) : Nat := (cs k).toNatClampNeg - 48
def A_senses (pg : Nat × (Nat → Int32)) : Int32 := if isSen pg.2 pg.1 = true then nI (cn (fun k => decide (¬ zOf pg.2 k = k)) 6) else -103
def A_sense (z : Nat → Nat) (p : Int32) : Int32 := if okF p then nI (z p.toNatClampNeg) else -101
def A_reading (z : Nat → Nat) (y : Sy) (p : Int32) : Int32 := if okR y p then nI (pcn (TR z y p.toNatClampNeg)) else -101
def A_isSo (z : Nat → Nat) (y : Sy) (p q : Int32) : Int32 := if okR y p ∧ okW q then bi (tb (TR z y p.toNatClampNeg) q.toNatClampNeg) else -101
def comN (z : Nat → Nat) (y : Sy) (w : Nat) (p : Int32) : Int32 := if p = 0 then nI (cn (fun r => tb (TR z y r) w) (NR y)) else fi (fun r => tb (TR z y r) w) (NR y)
def A_come (z : Nat → Nat) (y : Sy) (w : Nat) (p : Int32) : Int32 := if ok1 p then (if y.1 = 0 then -103 else comN z y w p) else -102
def A_fact (w : Nat) (p : Int32) : Int32 := if okF p then nI (bitN w p.toNatClampNeg) else -101
def A_set (w : Nat) (p v : Int32) : Int32 := if okF p then (if okV v then nI (bitN w p.toNatClampNeg) else -102) else -101
def N_set (w : Nat) (p v : Int32) : Nat := if okF p ∧ okV v then wN w p.toNatClampNeg v.toNatClampNeg else w
def A_hearer (h : Hr) (k f v : Int32) : Int32 := if okF f then (if okK k ∧ okV v then (if h.1 < 4 then nI h.1 else -104) else -102) else -101
def N_hearer (h : Hr) (k f v : Int32) : Hr := if okF f ∧ (okK k ∧ okV v) ∧ h.1 < 4 then (h.1 + 1, (fun j => if j = h.1 then k.toNatClampNeg else h.2.1 j), (fun j => if j = h.1 then f.toNatClampNeg else h.2.2.1 j), (fun j => if j = h.1 then v.toNatClampNeg else h.2.2.2.1 j), upd h.2.2.2.2 h.1 0) else h
def aN (z : Nat → Nat) (y : Sy) (h : Hr) (w : Nat) (p : Nat) (q : Int32) : Int32 := if q = 0 then nI (h.2.1 p) else if q = 1 then nI (h.2.2.1 p) else if q = 2 then nI (h.2.2.2.1 p) else if q = 3 then tkI z y (h.2.1 p) else if q = 4 then bi (decide (¬ y.1 = 0) && ac (h.2.1 p) (TR z y (tk z y (h.2.1 p))) w) else h.2.2.2.2 p
def A_about (z : Nat → Nat) (y : Sy) (h : Hr) (w : Nat) (p q : Int32) : Int32 := if okH h p then (if 0 ≤ q ∧ q ≤ 5 then aN z y h w p.toNatClampNeg q else -102) else -101
def A_as (h : Hr) (p k : Int32) : Int32 := if okH h p then (if okK k then (if k = 0 ∨ k = nI (h.2.1 p.toNatClampNeg) ∨ (k = 3 ∧ nI (h.2.1 p.toNatClampNeg) = 4) then p else -1) else -102) else -101
def A_act (z : Nat → Nat) (y : Sy) (h : Hr) (w : Nat) (p : Int32) : Int32 := if okH h p then (if y.1 = 0 then -103 else nI (aw z y h p.toNatClampNeg w)) else -101
def N_actW (z : Nat → Nat) (y : Sy) (h : Hr) (w : Nat) (p : Int32) : Nat := if okH h p ∧ ¬ y.1 = 0 then aw z y h p.toNatClampNeg w else w
def N_actH (z : Nat → Nat) (y : Sy) (h : Hr) (w : Nat) (p : Int32) : Hr := if okH h p ∧ ¬ y.1 = 0 then (h.1, h.2.1, h.2.2.1, h.2.2.2.1, ach z y h p.toNatClampNeg w h.2.2.2.2) else h
def A_round (z : Nat → Nat) (y : Sy) (h : Hr) (w : Nat) : Int32 := if y.1 = 0 then -103 else nI (rw2 z y h w h.1).1
def N_roundW (z : Nat → Nat) (y : Sy) (h : Hr) (w : Nat) : Nat := if y.1 = 0 then w else (rw2 z y h w h.1).1
def N_roundH (z : Nat → Nat) (y : Sy) (h : Hr) (w : Nat) : Hr := if y.1 = 0 then h else (h.1, h.2.1, h.2.2.1, h.2.2.2.1, (rw2 z y h w h.1).2)
def N_roundR (y : Sy) (rd : Int32) : Int32 := if y.1 = 0 then rd else rd + 1
def anyN (z : Nat → Nat) (y : Sy) (h : Hr) : Nat := cn (fun w => tb (som z y) (bR z y h h.1 w)) 64
def A_anyhow (z : Nat → Nat) (y : Sy) (h : Hr) : Int32 := if y.1 = 0 then -103 else nI (anyN z y h)
def lefN (z : Nat → Nat) (y o : Sy) (p : Int32) : Int32 := if p = 0 then nI (pcn (wl z y o)) else if p = 1 then nI (fB (fun f => decide (wl z y o &&& (Wf f ^^^ (-1)) = 0)) 6) else nI (fB (fun f => decide (wl z y o &&& Wf f = 0)) 6)
def A_left (z : Nat → Nat) (y o : Sy) (p : Int32) : Int32 := if ok2 p then (if y.1 = 0 then -103 else lefN z y o p) else -102
def askN (z : Nat → Nat) (y : Sy) : Nat := mn (fun f => lw (som z y) f) 6
def A_ask (z : Nat → Nat) (y : Sy) : Int32 := if y.1 = 0 then -103 else nI (askN z y)
def A_add (z : Nat → Nat) (y : Sy) (w ad : Nat) (p : Int32) : Int32 := if ok1 p then (if ¬ y.1 = 0 ∧ y.1 < 4 ∧ ad < 60 then (if p = 0 then nI (mx (rwt z y w) 24) else nI (rwt z y w (mx (rwt z y w) 24))) else -103) else -102
def N_add (y : Sy) (ad : Nat) (p : Int32) : Nat := if ok1 p ∧ ¬ y.1 = 0 ∧ y.1 < 4 ∧ ad < 60 then ad + 1 else ad
def A_tell (t : Tl) (p : Int32) : Int32 := if okW p then nI t.1 else -101
def N_tell (t : Tl) (p : Int32) : Tl := if okW p then (1, fun k => if k = 0 then p.toNatClampNeg else t.2 k) else t
def A_then (t : Tl) (p : Int32) : Int32 := if t.1 = 0 then -103 else if okW p then (if t.1 < 6 then nI (t.1 + 1) else -104) else -101
def N_then (t : Tl) (p : Int32) : Tl := if ¬ t.1 = 0 ∧ okW p ∧ t.1 < 6 then (t.1 + 1, fun k => if k = t.1 then p.toNatClampNeg else t.2 k) else t
def fitN (z : Nat → Nat) (y : Sy) (h : Hr) (t : Tl) (p : Nat) (q : Int32) : Int32 := if q = 0 then nI (cn (fun r => fitB h t p (TR z y r)) (NR y)) else fi (fun r => fitB h t p (TR z y r)) (NR y)
def A_fits (z : Nat → Nat) (y : Sy) (h : Hr) (t : Tl) (p q : Int32) : Int32 := if okH h p then (if ok1 q then (if y.1 = 0 ∨ t.1 = 0 then -103 else fitN z y h t p.toNatClampNeg q) else -102) else -101
def A_times (z : Nat → Nat) (y : Sy) (h : Hr) (w : Nat) (n s p : Int32) : Int32 := if (1 ≤ n ∧ n ≤ 60) ∧ 0 ≤ s ∧ ok2 p then (if y.1 = 0 then -103 else if p = 0 then nI (tm z y h w s.toNatClampNeg n.toNatClampNeg).1 else if p = 1 then nI (tm z y h w s.toNatClampNeg n.toNatClampNeg).2.2 else nI (tm z y h w s.toNatClampNeg n.toNatClampNeg).2.1) else -102
def cntN (S : AS) (p : Int32) : Int32 := if p = 0 then nI (NR S.2.2.2.1) else if p = 1 then nI S.2.2.2.1.1 else if p = 2 then nI (NR S.2.2.2.2.1) else if p = 3 then nI S.2.2.2.2.2.1.1 else if p = 4 then S.1.2.1 else if p = 5 then nI S.1.1 else if p = 6 then nI S.2.2.2.2.2.2.1.1 else if p = 7 then nI S.2.1.1 else if p = 8 then S.1.2.2.1 else if p = 9 then nI S.1.2.2.2 else -102
/-! digest -/
def mxs (f : Nat → Int64) : Nat → Int64 → Int64
  | 0, h => h
  | n + 1, h => 31 * mxs f n h + f n
def dgH (z : Nat → Nat) (y : Sy) (hr : Hr) (w : Nat) : Nat → Int64 → Int64
  | 0, h => h
  | n + 1, h => mxs (fun q => (aN z y hr w n (nI q)).toInt64) 6 (dgH z y hr w n h)
def dgS (z : Nat → Nat) (y o : Sy) (hr : Hr) (w : Nat) (h : Int64) : Int64 := 31 * mxs (fun q => (lefN z y o (nI q)).toInt64) 3 (31 * (31 * (31 * h + (comN z y w 0).toInt64) + (comN z y w 1).toInt64) + (nI (anyN z y hr)).toInt64) + (nI (askN z y)).toInt64
def dgF (z : Nat → Nat) (y : Sy) (hr : Hr) (t : Tl) : Nat → Int64 → Int64
  | 0, h => h
  | n + 1, h => 31 * (31 * dgF z y hr t n h + (fitN z y hr t n 0).toInt64) + (fitN z y hr t n 1).toInt64
def A_digest (S : AS) : Int64 :=
  mxs (fun k => (cntN S (nI k)).toInt64) 10 (mxs (fun k => (S.2.1.2 k).toInt64) S.2.1.1
    ((fun h => if S.2.2.2.1.1 = 0 then h else if S.2.2.2.2.2.2.1.1 = 0 then dgS S.2.2.1 S.2.2.2.1 S.2.2.2.2.1 S.2.2.2.2.2.1 S.1.1 h else dgF S.2.2.1 S.2.2.2.1 S.2.2.2.2.2.1 S.2.2.2.2.2.2.1 S.2.2.2.2.2.1.1 (dgS S.2.2.1 S.2.2.2.1 S.2.2.2.2.1 S.2.2.2.2.2.1 S.1.1 h))
      (dgH S.2.2.1 S.2.2.2.1 S.2.2.2.2.2.1 S.1.1 S.2.2.2.2.2.1.1 (mxs (fun k => (nI (bitN S.1.1 k)).toInt64) 6 (mxs (fun k => (nI (S.2.2.1 k)).toInt64) 6 739)))))
/-! facts -/
theorem rng_of {p : Int32} {n : Nat} (hn : n < 2 ^ 31) (h : 0 ≤ p ∧ p < nI n) : ∃ k : Nat, k < n ∧ p = nI k ∧ p.toNatClampNeg = k := by
  obtain ⟨j, hj, rfl⟩ := nI_of (x := p) (fun q => Int32.not_lt.mpr h.1 q)
  exact ⟨j, (nI_ltI hj hn).mp h.2, rfl, nI_clamp hj⟩
theorem rng_le {p : Int32} {n : Nat} (hn : n < 2 ^ 31) (h : 0 ≤ p ∧ p ≤ nI n) : ∃ k : Nat, k ≤ n ∧ p = nI k ∧ p.toNatClampNeg = k := by
  obtain ⟨j, hj, rfl⟩ := nI_of (x := p) (fun q => Int32.not_lt.mpr h.1 q)
  exact ⟨j, (nI_leI hj hn).mp h.2, rfl, nI_clamp hj⟩
theorem val_of {v : Int32} (h : v = 0 ∨ v = 1) : ∃ k : Nat, k < 2 ∧ v = nI k ∧ v.toNatClampNeg = k := by
  rcases h with rfl | rfl
  · exact ⟨0, by decide, rfl, rfl⟩
  · exact ⟨1, by decide, rfl, rfl⟩
theorem tk_lt {z : Nat → Nat} {y : Sy} {k : Nat} (h : 0 < NR y) : tk z y k < NR y := by
  unfold tk
  split
  · omega
  · split
    · exact mx_lt _ h
    · split
      · exact mn_lt _ h
      · exact h
theorem bh_lt {h : Hr} {hc : Hc} (hh : HrW hc h) {p : Nat} (hp : p < h.1) (x : Int64) {w : Nat} (hw : w < 64) : bh h p x w < 64 := by
  unfold bh
  split
  · exact (wN_ok w hw _ (hh.2.2 p hp).2.1.2 _ (hh.2.2 p hp).2.2.1.2).2
  · exact hw
theorem bR_lt {z : Nat → Nat} {y : Sy} {h : Hr} {hc : Hc} (hh : HrW hc h) {w : Nat} (hw : w < 64) : ∀ {n : Nat}, n ≤ h.1 → bR z y h n w < 64
  | 0, _ => hw
  | n + 1, hn => bh_lt hh (by omega) _ (bR_lt hh hw (by omega))
