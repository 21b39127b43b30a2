/-! every public call, over a content and the state that both speak of -/
def Q_letter (S : AS) (p0 : Int32) : Int32 := A_letter S.2.1.1 p0
theorem uX_letter (l : Launch) (E : Ev) (a : Nat → Nat) (σ : Xc) (S : AS) (hR : RX σ S) (p0 : Int32) : Ctr l yX5_letter cX5_letter 2 (some .int) 1 21 E (wX E a) [.ref (a 0), .int p0] σ (fun v x => v = some (.int (Q_letter S p0)) ∧ RX x (NS_letter S p0)) := by
  obtain ⟨⟨wn, rn, sn0, adn⟩, ⟨pn, pc⟩, z, y, o, hr, tl, im⟩ := S
  obtain ⟨⟨w, rds, sd, ad⟩, pg, sn, s0, s1, s2, h, t, ⟨ik, iw, ir⟩, ih, it⟩ := σ
  obtain ⟨⟨⟨hw, hw0⟩, e1, e2, had, had60⟩, ⟨hpg, hpn, hpc⟩, hz, hs, ho, hh, ht, hi⟩ := id hR
  change rds = rn at e1
  change sd = sn0 at e2
  subst e1
  subst e2
  exact (c_X5_letter l E a w rds sd ad pg sn s0 s1 s2 h t ik iw ir ih it p0 z y hs hz o ho hr hh tl ht pn pc hpg hpn hpc wn hw hw0 adn had had60 im hi).mono (fun v x q => by obtain ⟨r, rfl, rfl, q2⟩ := q; exact ⟨rfl, q2⟩)
theorem uM_letter (l : Launch) (E : Ev) (a : Nat → Nat) (σ : Mc) (S : AS) (hR : RM σ S) (p0 : Int32) : Ctr l yX6_letter cX6_letter 2 (some .int) 1 22 E (wM E a) [.ref (a 0), .int p0] σ (fun v x => v = some (.int (Q_letter S p0)) ∧ RM x (NS_letter S p0)) := by
  obtain ⟨⟨wn, rn, sn0, adn⟩, ⟨pn, pc⟩, z, y, o, hr, tl, ib, iw, ir, ih, it⟩ := S
  obtain ⟨⟨mw, msd, mn, mon, mhn, mrd, mtn, mad, mpn⟩, ⟨se, wo, jf, ow, oj, kf, ff, vf, cf, tf, pb⟩, ⟨fat, whl, nw, nwd, njn⟩, ⟨rd, so, vl, jg⟩, tko, ⟨sdn, hh_⟩, ⟨ik, kw, kh, kr, kt, kc, ko⟩⟩ := σ
  exact (c_X6_letter l E a mw msd mn mon mhn mrd mtn mad mpn se wo jf ow oj kf ff vf cf tf pb fat whl nw nwd njn rd so vl jg tko sdn hh_ ik kw kh kr kt kc ko p0 wn rn sn0 adn pn pc z y o hr tl ib iw ir ih it hR).mono (fun v x q => by obtain ⟨r, rfl, rfl, q2⟩ := q; exact ⟨rfl, q2⟩)
def Q_blank (S : AS) : Int32 := nI S.2.1.1
theorem uX_blank (l : Launch) (E : Ev) (a : Nat → Nat) (σ : Xc) (S : AS) (hR : RX σ S) : Ctr l yX5_blank cX5_blank 1 (some .int) 1 21 E (wX E a) [.ref (a 0)] σ (fun v x => v = some (.int (Q_blank S)) ∧ RX x (NS_blank S)) := by
  obtain ⟨⟨wn, rn, sn0, adn⟩, ⟨pn, pc⟩, z, y, o, hr, tl, im⟩ := S
  obtain ⟨⟨w, rds, sd, ad⟩, pg, sn, s0, s1, s2, h, t, ⟨ik, iw, ir⟩, ih, it⟩ := σ
  obtain ⟨⟨⟨hw, hw0⟩, e1, e2, had, had60⟩, ⟨hpg, hpn, hpc⟩, hz, hs, ho, hh, ht, hi⟩ := id hR
  change rds = rn at e1
  change sd = sn0 at e2
  subst e1
  subst e2
  exact (c_X5_blank l E a w rds sd ad pg sn s0 s1 s2 h t ik iw ir ih it z y hs hz o ho hr hh tl ht pn pc hpg hpn hpc wn hw hw0 adn had had60 im hi).mono (fun v x q => by obtain ⟨r, rfl, rfl, q2⟩ := q; exact ⟨rfl, q2⟩)
theorem uM_blank (l : Launch) (E : Ev) (a : Nat → Nat) (σ : Mc) (S : AS) (hR : RM σ S) : Ctr l yX6_blank cX6_blank 2 (some .int) 0 0 E (wM E a) [.ref (a 0)] σ (fun v x => v = some (.int (Q_blank S)) ∧ RM x (NS_blank S)) := by
  obtain ⟨⟨wn, rn, sn0, adn⟩, ⟨pn, pc⟩, z, y, o, hr, tl, ib, iw, ir, ih, it⟩ := S
  obtain ⟨⟨mw, msd, mn, mon, mhn, mrd, mtn, mad, mpn⟩, ⟨se, wo, jf, ow, oj, kf, ff, vf, cf, tf, pb⟩, ⟨fat, whl, nw, nwd, njn⟩, ⟨rd, so, vl, jg⟩, tko, ⟨sdn, hh_⟩, ⟨ik, kw, kh, kr, kt, kc, ko⟩⟩ := σ
  exact (c_X6_blank l E a mw msd mn mon mhn mrd mtn mad mpn se wo jf ow oj kf ff vf cf tf pb fat whl nw nwd njn rd so vl jg tko sdn hh_ ik kw kh kr kt kc ko wn rn sn0 adn pn pc z y o hr tl ib iw ir ih it hR).mono (fun v x q => by obtain ⟨r, rfl, rfl, q2⟩ := q; exact ⟨rfl, q2⟩)
def Q_fault (S : AS) (p0 : Int32) : Int32 := A_fault S.2.1 p0
theorem uX_fault (l : Launch) (E : Ev) (a : Nat → Nat) (σ : Xc) (S : AS) (hR : RX σ S) (p0 : Int32) : Ctr l yX5_fault cX5_fault 2 (some .int) 2 46 E (wX E a) [.ref (a 0), .int p0] σ (fun v x => v = some (.int (Q_fault S p0)) ∧ RX x S) := by
  obtain ⟨⟨wn, rn, sn0, adn⟩, ⟨pn, pc⟩, z, y, o, hr, tl, im⟩ := S
  obtain ⟨⟨w, rds, sd, ad⟩, pg, sn, s0, s1, s2, h, t, ⟨ik, iw, ir⟩, ih, it⟩ := σ
  obtain ⟨⟨⟨hw, hw0⟩, e1, e2, had, had60⟩, ⟨hpg, hpn, hpc⟩, hz, hs, ho, hh, ht, hi⟩ := id hR
  change rds = rn at e1
  change sd = sn0 at e2
  subst e1
  subst e2
  exact (c_X5_fault l E a w rds sd ad pg sn s0 s1 s2 h t ik iw ir ih it p0 pn pc hpg hpn).mono (fun v x q => by obtain ⟨q1, q2⟩ := q; subst q2; exact ⟨q1, hR⟩)
theorem uM_fault (l : Launch) (E : Ev) (a : Nat → Nat) (σ : Mc) (S : AS) (hR : RM σ S) (p0 : Int32) : Ctr l yX6_fault cX6_fault 2 (some .int) 3 69 E (wM E a) [.ref (a 0), .int p0] σ (fun v x => v = some (.int (Q_fault S p0)) ∧ RM x S) := by
  obtain ⟨⟨wn, rn, sn0, adn⟩, ⟨pn, pc⟩, z, y, o, hr, tl, ib, iw, ir, ih, it⟩ := S
  obtain ⟨⟨mw, msd, mn, mon, mhn, mrd, mtn, mad, mpn⟩, ⟨se, wo, jf, ow, oj, kf, ff, vf, cf, tf, pb⟩, ⟨fat, whl, nw, nwd, njn⟩, ⟨rd, so, vl, jg⟩, tko, ⟨sdn, hh_⟩, ⟨ik, kw, kh, kr, kt, kc, ko⟩⟩ := σ
  exact (c_X6_fault l E a mw msd mn mon mhn mrd mtn mad mpn se wo jf ow oj kf ff vf cf tf pb fat whl nw nwd njn rd so vl jg tko sdn hh_ ik kw kh kr kt kc ko p0 wn rn sn0 adn pn pc z y o hr tl ib iw ir ih it hR).mono (fun v x q => by obtain ⟨r, rfl, rfl, q2⟩ := q; exact ⟨rfl, q2⟩)
def Q_say (S : AS) : Int32 := A_say S.2.1
theorem uX_say (l : Launch) (E : Ev) (a : Nat → Nat) (σ : Xc) (S : AS) (hR : RX σ S) : Ctr l yX5_say cX5_say 1 (some .int) 5 127 E (wX E a) [.ref (a 0)] σ (fun v x => v = some (.int (Q_say S)) ∧ RX x (NS_say S)) := by
  obtain ⟨⟨wn, rn, sn0, adn⟩, ⟨pn, pc⟩, z, y, o, hr, tl, im⟩ := S
  obtain ⟨⟨w, rds, sd, ad⟩, pg, sn, s0, s1, s2, h, t, ⟨ik, iw, ir⟩, ih, it⟩ := σ
  obtain ⟨⟨⟨hw, hw0⟩, e1, e2, had, had60⟩, ⟨hpg, hpn, hpc⟩, hz, hs, ho, hh, ht, hi⟩ := id hR
  change rds = rn at e1
  change sd = sn0 at e2
  subst e1
  subst e2
  exact (c_X5_say l E a w rds sd ad pg sn s0 s1 s2 h t ik iw ir ih it z y hs hz o ho hr hh tl ht pn pc hpg hpn hpc wn hw hw0 adn had had60 im hi).mono (fun v x q => by obtain ⟨r, rfl, rfl, q2⟩ := q; exact ⟨rfl, q2⟩)
theorem uM_say (l : Launch) (E : Ev) (a : Nat → Nat) (σ : Mc) (S : AS) (hR : RM σ S) : Ctr l yX6_say cX6_say 2 (some .int) 4 115 E (wM E a) [.ref (a 0)] σ (fun v x => v = some (.int (Q_say S)) ∧ RM x (NS_say S)) := by
  obtain ⟨⟨wn, rn, sn0, adn⟩, ⟨pn, pc⟩, z, y, o, hr, tl, ib, iw, ir, ih, it⟩ := S
  obtain ⟨⟨mw, msd, mn, mon, mhn, mrd, mtn, mad, mpn⟩, ⟨se, wo, jf, ow, oj, kf, ff, vf, cf, tf, pb⟩, ⟨fat, whl, nw, nwd, njn⟩, ⟨rd, so, vl, jg⟩, tko, ⟨sdn, hh_⟩, ⟨ik, kw, kh, kr, kt, kc, ko⟩⟩ := σ
  exact (c_X6_say l E a mw msd mn mon mhn mrd mtn mad mpn se wo jf ow oj kf ff vf cf tf pb fat whl nw nwd njn rd so vl jg tko sdn hh_ ik kw kh kr kt kc ko wn rn sn0 adn pn pc z y o hr tl ib iw ir ih it hR).mono (fun v x q => by obtain ⟨r, rfl, rfl, q2⟩ := q; exact ⟨rfl, q2⟩)
def Q_senses (S : AS) : Int32 := A_senses S.2.1
theorem uX_senses (l : Launch) (E : Ev) (a : Nat → Nat) (σ : Xc) (S : AS) (hR : RX σ S) : Ctr l yX5_senses cX5_senses 3 (some .int) 5 127 E (wX E a) [.ref (a 0)] σ (fun v x => v = some (.int (Q_senses S)) ∧ RX x (NS_senses S)) := by
  obtain ⟨⟨wn, rn, sn0, adn⟩, ⟨pn, pc⟩, z, y, o, hr, tl, im⟩ := S
  obtain ⟨⟨w, rds, sd, ad⟩, pg, sn, s0, s1, s2, h, t, ⟨ik, iw, ir⟩, ih, it⟩ := σ
  obtain ⟨⟨⟨hw, hw0⟩, e1, e2, had, had60⟩, ⟨hpg, hpn, hpc⟩, hz, hs, ho, hh, ht, hi⟩ := id hR
  change rds = rn at e1
  change sd = sn0 at e2
  subst e1
  subst e2
  exact (c_X5_senses l E a w rds sd ad pg sn s0 s1 s2 h t ik iw ir ih it z y hs hz o ho hr hh tl ht pn pc hpg hpn hpc wn hw hw0 adn had had60 im hi).mono (fun v x q => by obtain ⟨r, rfl, rfl, q2⟩ := q; exact ⟨rfl, q2⟩)
theorem uM_senses (l : Launch) (E : Ev) (a : Nat → Nat) (σ : Mc) (S : AS) (hR : RM σ S) : Ctr l yX6_senses cX6_senses 3 (some .int) 2 43 E (wM E a) [.ref (a 0)] σ (fun v x => v = some (.int (Q_senses S)) ∧ RM x (NS_senses S)) := by
  obtain ⟨⟨wn, rn, sn0, adn⟩, ⟨pn, pc⟩, z, y, o, hr, tl, ib, iw, ir, ih, it⟩ := S
  obtain ⟨⟨mw, msd, mn, mon, mhn, mrd, mtn, mad, mpn⟩, ⟨se, wo, jf, ow, oj, kf, ff, vf, cf, tf, pb⟩, ⟨fat, whl, nw, nwd, njn⟩, ⟨rd, so, vl, jg⟩, tko, ⟨sdn, hh_⟩, ⟨ik, kw, kh, kr, kt, kc, ko⟩⟩ := σ
  exact (c_X6_senses l E a mw msd mn mon mhn mrd mtn mad mpn se wo jf ow oj kf ff vf cf tf pb fat whl nw nwd njn rd so vl jg tko sdn hh_ ik kw kh kr kt kc ko wn rn sn0 adn pn pc z y o hr tl ib iw ir ih it hR).mono (fun v x q => by obtain ⟨r, rfl, rfl, q2⟩ := q; exact ⟨rfl, q2⟩)
def Q_sense (S : AS) (p0 : Int32) : Int32 := A_sense S.2.2.1 p0
theorem uX_sense (l : Launch) (E : Ev) (a : Nat → Nat) (σ : Xc) (S : AS) (hR : RX σ S) (p0 : Int32) : Ctr l yX5_sense cX5_sense 2 (some .int) 0 0 E (wX E a) [.ref (a 0), .int p0] σ (fun v x => v = some (.int (Q_sense S p0)) ∧ RX x S) := by
  obtain ⟨⟨wn, rn, sn0, adn⟩, ⟨pn, pc⟩, z, y, o, hr, tl, im⟩ := S
  obtain ⟨⟨w, rds, sd, ad⟩, pg, sn, s0, s1, s2, h, t, ⟨ik, iw, ir⟩, ih, it⟩ := σ
  obtain ⟨⟨⟨hw, hw0⟩, e1, e2, had, had60⟩, ⟨hpg, hpn, hpc⟩, hz, hs, ho, hh, ht, hi⟩ := id hR
  change rds = rn at e1
  change sd = sn0 at e2
  subst e1
  subst e2
  exact (c_X5_sense l E a w rds sd ad pg sn s0 s1 s2 h t ik iw ir ih it p0 z hz).mono (fun v x q => by obtain ⟨q1, q2⟩ := q; subst q2; exact ⟨q1, hR⟩)
theorem uM_sense (l : Launch) (E : Ev) (a : Nat → Nat) (σ : Mc) (S : AS) (hR : RM σ S) (p0 : Int32) : Ctr l yX6_sense cX6_sense 2 (some .int) 2 42 E (wM E a) [.ref (a 0), .int p0] σ (fun v x => v = some (.int (Q_sense S p0)) ∧ RM x S) := by
  obtain ⟨⟨wn, rn, sn0, adn⟩, ⟨pn, pc⟩, z, y, o, hr, tl, ib, iw, ir, ih, it⟩ := S
  obtain ⟨⟨mw, msd, mn, mon, mhn, mrd, mtn, mad, mpn⟩, ⟨se, wo, jf, ow, oj, kf, ff, vf, cf, tf, pb⟩, ⟨fat, whl, nw, nwd, njn⟩, ⟨rd, so, vl, jg⟩, tko, ⟨sdn, hh_⟩, ⟨ik, kw, kh, kr, kt, kc, ko⟩⟩ := σ
  exact (c_X6_sense l E a mw msd mn mon mhn mrd mtn mad mpn se wo jf ow oj kf ff vf cf tf pb fat whl nw nwd njn rd so vl jg tko sdn hh_ ik kw kh kr kt kc ko p0 wn rn sn0 adn pn pc z y o hr tl ib iw ir ih it hR).mono (fun v x q => by obtain ⟨r, rfl, rfl, q2⟩ := q; exact ⟨rfl, q2⟩)
def Q_reading (S : AS) (p0 : Int32) : Int32 := A_reading S.2.2.1 S.2.2.2.1 p0
theorem uX_reading (l : Launch) (E : Ev) (a : Nat → Nat) (σ : Xc) (S : AS) (hR : RX σ S) (p0 : Int32) : Ctr l yX5_reading cX5_reading 2 (some .int) 1 21 E (wX E a) [.ref (a 0), .int p0] σ (fun v x => v = some (.int (Q_reading S p0)) ∧ RX x S) := by
  obtain ⟨⟨wn, rn, sn0, adn⟩, ⟨pn, pc⟩, z, y, o, hr, tl, im⟩ := S
  obtain ⟨⟨w, rds, sd, ad⟩, pg, sn, s0, s1, s2, h, t, ⟨ik, iw, ir⟩, ih, it⟩ := σ
  obtain ⟨⟨⟨hw, hw0⟩, e1, e2, had, had60⟩, ⟨hpg, hpn, hpc⟩, hz, hs, ho, hh, ht, hi⟩ := id hR
  change rds = rn at e1
  change sd = sn0 at e2
  subst e1
  subst e2
  exact (c_X5_reading l E a w rds sd ad pg sn s0 s1 s2 h t ik iw ir ih it p0 z y hs).mono (fun v x q => by obtain ⟨q1, q2⟩ := q; subst q2; exact ⟨q1, hR⟩)
theorem uM_reading (l : Launch) (E : Ev) (a : Nat → Nat) (σ : Mc) (S : AS) (hR : RM σ S) (p0 : Int32) : Ctr l yX6_reading cX6_reading 2 (some .int) 5 136 E (wM E a) [.ref (a 0), .int p0] σ (fun v x => v = some (.int (Q_reading S p0)) ∧ RM x S) := by
  obtain ⟨⟨wn, rn, sn0, adn⟩, ⟨pn, pc⟩, z, y, o, hr, tl, ib, iw, ir, ih, it⟩ := S
  obtain ⟨⟨mw, msd, mn, mon, mhn, mrd, mtn, mad, mpn⟩, ⟨se, wo, jf, ow, oj, kf, ff, vf, cf, tf, pb⟩, ⟨fat, whl, nw, nwd, njn⟩, ⟨rd, so, vl, jg⟩, tko, ⟨sdn, hh_⟩, ⟨ik, kw, kh, kr, kt, kc, ko⟩⟩ := σ
  exact (c_X6_reading l E a mw msd mn mon mhn mrd mtn mad mpn se wo jf ow oj kf ff vf cf tf pb fat whl nw nwd njn rd so vl jg tko sdn hh_ ik kw kh kr kt kc ko p0 wn rn sn0 adn pn pc z y o hr tl ib iw ir ih it hR).mono (fun v x q => by obtain ⟨r, rfl, rfl, q2⟩ := q; exact ⟨rfl, q2⟩)
def Q_isSo (S : AS) (p0 p1 : Int32) : Int32 := A_isSo S.2.2.1 S.2.2.2.1 p0 p1
theorem uX_isSo (l : Launch) (E : Ev) (a : Nat → Nat) (σ : Xc) (S : AS) (hR : RX σ S) (p0 p1 : Int32) : Ctr l yX5_isSo cX5_isSo 3 (some .int) 1 22 E (wX E a) [.ref (a 0), .int p0, .int p1] σ (fun v x => v = some (.int (Q_isSo S p0 p1)) ∧ RX x S) := by
  obtain ⟨⟨wn, rn, sn0, adn⟩, ⟨pn, pc⟩, z, y, o, hr, tl, im⟩ := S
  obtain ⟨⟨w, rds, sd, ad⟩, pg, sn, s0, s1, s2, h, t, ⟨ik, iw, ir⟩, ih, it⟩ := σ
  obtain ⟨⟨⟨hw, hw0⟩, e1, e2, had, had60⟩, ⟨hpg, hpn, hpc⟩, hz, hs, ho, hh, ht, hi⟩ := id hR
  change rds = rn at e1
  change sd = sn0 at e2
  subst e1
  subst e2
  exact (c_X5_isSo l E a w rds sd ad pg sn s0 s1 s2 h t ik iw ir ih it p0 p1 z y hs).mono (fun v x q => by obtain ⟨q1, q2⟩ := q; subst q2; exact ⟨q1, hR⟩)
theorem uM_isSo (l : Launch) (E : Ev) (a : Nat → Nat) (σ : Mc) (S : AS) (hR : RM σ S) (p0 p1 : Int32) : Ctr l yX6_isSo cX6_isSo 3 (some .int) 5 136 E (wM E a) [.ref (a 0), .int p0, .int p1] σ (fun v x => v = some (.int (Q_isSo S p0 p1)) ∧ RM x S) := by
  obtain ⟨⟨wn, rn, sn0, adn⟩, ⟨pn, pc⟩, z, y, o, hr, tl, ib, iw, ir, ih, it⟩ := S
  obtain ⟨⟨mw, msd, mn, mon, mhn, mrd, mtn, mad, mpn⟩, ⟨se, wo, jf, ow, oj, kf, ff, vf, cf, tf, pb⟩, ⟨fat, whl, nw, nwd, njn⟩, ⟨rd, so, vl, jg⟩, tko, ⟨sdn, hh_⟩, ⟨ik, kw, kh, kr, kt, kc, ko⟩⟩ := σ
  exact (c_X6_isSo l E a mw msd mn mon mhn mrd mtn mad mpn se wo jf ow oj kf ff vf cf tf pb fat whl nw nwd njn rd so vl jg tko sdn hh_ ik kw kh kr kt kc ko p0 p1 wn rn sn0 adn pn pc z y o hr tl ib iw ir ih it hR).mono (fun v x q => by obtain ⟨r, rfl, rfl, q2⟩ := q; exact ⟨rfl, q2⟩)
def Q_come (S : AS) (p0 : Int32) : Int32 := A_come S.2.2.1 S.2.2.2.1 S.1.1 p0
theorem uX_come (l : Launch) (E : Ev) (a : Nat → Nat) (σ : Xc) (S : AS) (hR : RX σ S) (p0 : Int32) : Ctr l yX5_come cX5_come 2 (some .int) 2 45 E (wX E a) [.ref (a 0), .int p0] σ (fun v x => v = some (.int (Q_come S p0)) ∧ RX x S) := by
  obtain ⟨⟨wn, rn, sn0, adn⟩, ⟨pn, pc⟩, z, y, o, hr, tl, im⟩ := S
  obtain ⟨⟨w, rds, sd, ad⟩, pg, sn, s0, s1, s2, h, t, ⟨ik, iw, ir⟩, ih, it⟩ := σ
  obtain ⟨⟨⟨hw, hw0⟩, e1, e2, had, had60⟩, ⟨hpg, hpn, hpc⟩, hz, hs, ho, hh, ht, hi⟩ := id hR
  change rds = rn at e1
  change sd = sn0 at e2
  subst e1
  subst e2
  exact (c_X5_come l E a w rds sd ad pg sn s0 s1 s2 h t ik iw ir ih it p0 z y hs wn hw hw0).mono (fun v x q => by obtain ⟨q1, q2⟩ := q; subst q2; exact ⟨q1, hR⟩)
theorem uM_come (l : Launch) (E : Ev) (a : Nat → Nat) (σ : Mc) (S : AS) (hR : RM σ S) (p0 : Int32) : Ctr l yX6_come cX6_come 2 (some .int) 4 115 E (wM E a) [.ref (a 0), .int p0] σ (fun v x => v = some (.int (Q_come S p0)) ∧ RM x S) := by
  obtain ⟨⟨wn, rn, sn0, adn⟩, ⟨pn, pc⟩, z, y, o, hr, tl, ib, iw, ir, ih, it⟩ := S
  obtain ⟨⟨mw, msd, mn, mon, mhn, mrd, mtn, mad, mpn⟩, ⟨se, wo, jf, ow, oj, kf, ff, vf, cf, tf, pb⟩, ⟨fat, whl, nw, nwd, njn⟩, ⟨rd, so, vl, jg⟩, tko, ⟨sdn, hh_⟩, ⟨ik, kw, kh, kr, kt, kc, ko⟩⟩ := σ
  exact (c_X6_come l E a mw msd mn mon mhn mrd mtn mad mpn se wo jf ow oj kf ff vf cf tf pb fat whl nw nwd njn rd so vl jg tko sdn hh_ ik kw kh kr kt kc ko p0 wn rn sn0 adn pn pc z y o hr tl ib iw ir ih it hR).mono (fun v x q => by obtain ⟨r, rfl, rfl, q2⟩ := q; exact ⟨rfl, q2⟩)
def Q_fact (S : AS) (p0 : Int32) : Int32 := A_fact S.1.1 p0
theorem uX_fact (l : Launch) (E : Ev) (a : Nat → Nat) (σ : Xc) (S : AS) (hR : RX σ S) (p0 : Int32) : Ctr l yX5_fact cX5_fact 2 (some .int) 1 22 E (wX E a) [.ref (a 0), .int p0] σ (fun v x => v = some (.int (Q_fact S p0)) ∧ RX x S) := by
  obtain ⟨⟨wn, rn, sn0, adn⟩, ⟨pn, pc⟩, z, y, o, hr, tl, im⟩ := S
  obtain ⟨⟨w, rds, sd, ad⟩, pg, sn, s0, s1, s2, h, t, ⟨ik, iw, ir⟩, ih, it⟩ := σ
  obtain ⟨⟨⟨hw, hw0⟩, e1, e2, had, had60⟩, ⟨hpg, hpn, hpc⟩, hz, hs, ho, hh, ht, hi⟩ := id hR
  change rds = rn at e1
  change sd = sn0 at e2
  subst e1
  subst e2
  exact (c_X5_fact l E a w rds sd ad pg sn s0 s1 s2 h t ik iw ir ih it p0 wn hw hw0).mono (fun v x q => by obtain ⟨q1, q2⟩ := q; subst q2; exact ⟨q1, hR⟩)
theorem uM_fact (l : Launch) (E : Ev) (a : Nat → Nat) (σ : Mc) (S : AS) (hR : RM σ S) (p0 : Int32) : Ctr l yX6_fact cX6_fact 2 (some .int) 2 42 E (wM E a) [.ref (a 0), .int p0] σ (fun v x => v = some (.int (Q_fact S p0)) ∧ RM x S) := by
  obtain ⟨⟨wn, rn, sn0, adn⟩, ⟨pn, pc⟩, z, y, o, hr, tl, ib, iw, ir, ih, it⟩ := S
  obtain ⟨⟨mw, msd, mn, mon, mhn, mrd, mtn, mad, mpn⟩, ⟨se, wo, jf, ow, oj, kf, ff, vf, cf, tf, pb⟩, ⟨fat, whl, nw, nwd, njn⟩, ⟨rd, so, vl, jg⟩, tko, ⟨sdn, hh_⟩, ⟨ik, kw, kh, kr, kt, kc, ko⟩⟩ := σ
  exact (c_X6_fact l E a mw msd mn mon mhn mrd mtn mad mpn se wo jf ow oj kf ff vf cf tf pb fat whl nw nwd njn rd so vl jg tko sdn hh_ ik kw kh kr kt kc ko p0 wn rn sn0 adn pn pc z y o hr tl ib iw ir ih it hR).mono (fun v x q => by obtain ⟨r, rfl, rfl, q2⟩ := q; exact ⟨rfl, q2⟩)
def Q_set (S : AS) (p0 p1 : Int32) : Int32 := A_set S.1.1 p0 p1
theorem uX_set (l : Launch) (E : Ev) (a : Nat → Nat) (σ : Xc) (S : AS) (hR : RX σ S) (p0 p1 : Int32) : Ctr l yX5_set cX5_set 4 (some .int) 1 22 E (wX E a) [.ref (a 0), .int p0, .int p1] σ (fun v x => v = some (.int (Q_set S p0 p1)) ∧ RX x (NS_set S p0 p1)) := by
  obtain ⟨⟨wn, rn, sn0, adn⟩, ⟨pn, pc⟩, z, y, o, hr, tl, im⟩ := S
  obtain ⟨⟨w, rds, sd, ad⟩, pg, sn, s0, s1, s2, h, t, ⟨ik, iw, ir⟩, ih, it⟩ := σ
  obtain ⟨⟨⟨hw, hw0⟩, e1, e2, had, had60⟩, ⟨hpg, hpn, hpc⟩, hz, hs, ho, hh, ht, hi⟩ := id hR
  change rds = rn at e1
  change sd = sn0 at e2
  subst e1
  subst e2
  exact (c_X5_set l E a w rds sd ad pg sn s0 s1 s2 h t ik iw ir ih it p0 p1 z y hs hz o ho hr hh tl ht pn pc hpg hpn hpc wn hw hw0 adn had had60 im hi).mono (fun v x q => by obtain ⟨r, rfl, rfl, q2⟩ := q; exact ⟨rfl, q2⟩)
theorem uM_set (l : Launch) (E : Ev) (a : Nat → Nat) (σ : Mc) (S : AS) (hR : RM σ S) (p0 p1 : Int32) : Ctr l yX6_set cX6_set 4 (some .int) 2 42 E (wM E a) [.ref (a 0), .int p0, .int p1] σ (fun v x => v = some (.int (Q_set S p0 p1)) ∧ RM x (NS_set S p0 p1)) := by
  obtain ⟨⟨wn, rn, sn0, adn⟩, ⟨pn, pc⟩, z, y, o, hr, tl, ib, iw, ir, ih, it⟩ := S
  obtain ⟨⟨mw, msd, mn, mon, mhn, mrd, mtn, mad, mpn⟩, ⟨se, wo, jf, ow, oj, kf, ff, vf, cf, tf, pb⟩, ⟨fat, whl, nw, nwd, njn⟩, ⟨rd, so, vl, jg⟩, tko, ⟨sdn, hh_⟩, ⟨ik, kw, kh, kr, kt, kc, ko⟩⟩ := σ
  exact (c_X6_set l E a mw msd mn mon mhn mrd mtn mad mpn se wo jf ow oj kf ff vf cf tf pb fat whl nw nwd njn rd so vl jg tko sdn hh_ ik kw kh kr kt kc ko p0 p1 wn rn sn0 adn pn pc z y o hr tl ib iw ir ih it hR).mono (fun v x q => by obtain ⟨r, rfl, rfl, q2⟩ := q; exact ⟨rfl, q2⟩)
def Q_hearer (S : AS) (p0 p1 p2 : Int32) : Int32 := A_hearer S.2.2.2.2.2.1 p0 p1 p2
theorem uX_hearer (l : Launch) (E : Ev) (a : Nat → Nat) (σ : Xc) (S : AS) (hR : RX σ S) (p0 p1 p2 : Int32) : Ctr l yX5_hearer cX5_hearer 4 (some .int) 1 23 E (wX E a) [.ref (a 0), .int p0, .int p1, .int p2] σ (fun v x => v = some (.int (Q_hearer S p0 p1 p2)) ∧ RX x (NS_hearer S p0 p1 p2)) := by
  obtain ⟨⟨wn, rn, sn0, adn⟩, ⟨pn, pc⟩, z, y, o, hr, tl, im⟩ := S
  obtain ⟨⟨w, rds, sd, ad⟩, pg, sn, s0, s1, s2, h, t, ⟨ik, iw, ir⟩, ih, it⟩ := σ
  obtain ⟨⟨⟨hw, hw0⟩, e1, e2, had, had60⟩, ⟨hpg, hpn, hpc⟩, hz, hs, ho, hh, ht, hi⟩ := id hR
  change rds = rn at e1
  change sd = sn0 at e2
  subst e1
  subst e2
  exact (c_X5_hearer l E a w rds sd ad pg sn s0 s1 s2 h t ik iw ir ih it p0 p1 p2 z y hs hz o ho hr hh tl ht pn pc hpg hpn hpc wn hw hw0 adn had had60 im hi).mono (fun v x q => by obtain ⟨r, rfl, rfl, q2⟩ := q; exact ⟨rfl, q2⟩)
theorem uM_hearer (l : Launch) (E : Ev) (a : Nat → Nat) (σ : Mc) (S : AS) (hR : RM σ S) (p0 p1 p2 : Int32) : Ctr l yX6_hearer cX6_hearer 4 (some .int) 2 42 E (wM E a) [.ref (a 0), .int p0, .int p1, .int p2] σ (fun v x => v = some (.int (Q_hearer S p0 p1 p2)) ∧ RM x (NS_hearer S p0 p1 p2)) := by
  obtain ⟨⟨wn, rn, sn0, adn⟩, ⟨pn, pc⟩, z, y, o, hr, tl, ib, iw, ir, ih, it⟩ := S
  obtain ⟨⟨mw, msd, mn, mon, mhn, mrd, mtn, mad, mpn⟩, ⟨se, wo, jf, ow, oj, kf, ff, vf, cf, tf, pb⟩, ⟨fat, whl, nw, nwd, njn⟩, ⟨rd, so, vl, jg⟩, tko, ⟨sdn, hh_⟩, ⟨ik, kw, kh, kr, kt, kc, ko⟩⟩ := σ
  exact (c_X6_hearer l E a mw msd mn mon mhn mrd mtn mad mpn se wo jf ow oj kf ff vf cf tf pb fat whl nw nwd njn rd so vl jg tko sdn hh_ ik kw kh kr kt kc ko p0 p1 p2 wn rn sn0 adn pn pc z y o hr tl ib iw ir ih it hR).mono (fun v x q => by obtain ⟨r, rfl, rfl, q2⟩ := q; exact ⟨rfl, q2⟩)
def Q_about (S : AS) (p0 p1 : Int32) : Int32 := A_about S.2.2.1 S.2.2.2.1 S.2.2.2.2.2.1 S.1.1 p0 p1
theorem uX_about (l : Launch) (E : Ev) (a : Nat → Nat) (σ : Xc) (S : AS) (hR : RX σ S) (p0 p1 : Int32) : Ctr l yX5_about cX5_about 3 (some .int) 3 67 E (wX E a) [.ref (a 0), .int p0, .int p1] σ (fun v x => v = some (.int (Q_about S p0 p1)) ∧ RX x S) := by
  obtain ⟨⟨wn, rn, sn0, adn⟩, ⟨pn, pc⟩, z, y, o, hr, tl, im⟩ := S
  obtain ⟨⟨w, rds, sd, ad⟩, pg, sn, s0, s1, s2, h, t, ⟨ik, iw, ir⟩, ih, it⟩ := σ
  obtain ⟨⟨⟨hw, hw0⟩, e1, e2, had, had60⟩, ⟨hpg, hpn, hpc⟩, hz, hs, ho, hh, ht, hi⟩ := id hR
  change rds = rn at e1
  change sd = sn0 at e2
  subst e1
  subst e2
  exact (c_X5_about l E a w rds sd ad pg sn s0 s1 s2 h t ik iw ir ih it p0 p1 z y hs hr hh wn hw hw0).mono (fun v x q => by obtain ⟨q1, q2⟩ := q; subst q2; exact ⟨q1, hR⟩)
theorem uM_about (l : Launch) (E : Ev) (a : Nat → Nat) (σ : Mc) (S : AS) (hR : RM σ S) (p0 p1 : Int32) : Ctr l yX6_about cX6_about 3 (some .int) 4 115 E (wM E a) [.ref (a 0), .int p0, .int p1] σ (fun v x => v = some (.int (Q_about S p0 p1)) ∧ RM x S) := by
  obtain ⟨⟨wn, rn, sn0, adn⟩, ⟨pn, pc⟩, z, y, o, hr, tl, ib, iw, ir, ih, it⟩ := S
  obtain ⟨⟨mw, msd, mn, mon, mhn, mrd, mtn, mad, mpn⟩, ⟨se, wo, jf, ow, oj, kf, ff, vf, cf, tf, pb⟩, ⟨fat, whl, nw, nwd, njn⟩, ⟨rd, so, vl, jg⟩, tko, ⟨sdn, hh_⟩, ⟨ik, kw, kh, kr, kt, kc, ko⟩⟩ := σ
  exact (c_X6_about l E a mw msd mn mon mhn mrd mtn mad mpn se wo jf ow oj kf ff vf cf tf pb fat whl nw nwd njn rd so vl jg tko sdn hh_ ik kw kh kr kt kc ko p0 p1 wn rn sn0 adn pn pc z y o hr tl ib iw ir ih it hR).mono (fun v x q => by obtain ⟨r, rfl, rfl, q2⟩ := q; exact ⟨rfl, q2⟩)
def Q_as (S : AS) (p0 p1 : Int32) : Int32 := A_as S.2.2.2.2.2.1 p0 p1
theorem uX_as (l : Launch) (E : Ev) (a : Nat → Nat) (σ : Xc) (S : AS) (hR : RX σ S) (p0 p1 : Int32) : Ctr l yX5_as cX5_as 3 (some .int) 1 21 E (wX E a) [.ref (a 0), .int p0, .int p1] σ (fun v x => v = some (.int (Q_as S p0 p1)) ∧ RX x S) := by
  obtain ⟨⟨wn, rn, sn0, adn⟩, ⟨pn, pc⟩, z, y, o, hr, tl, im⟩ := S
  obtain ⟨⟨w, rds, sd, ad⟩, pg, sn, s0, s1, s2, h, t, ⟨ik, iw, ir⟩, ih, it⟩ := σ
  obtain ⟨⟨⟨hw, hw0⟩, e1, e2, had, had60⟩, ⟨hpg, hpn, hpc⟩, hz, hs, ho, hh, ht, hi⟩ := id hR
  change rds = rn at e1
  change sd = sn0 at e2
  subst e1
  subst e2
  exact (c_X5_as l E a w rds sd ad pg sn s0 s1 s2 h t ik iw ir ih it p0 p1 hr hh).mono (fun v x q => by obtain ⟨q1, q2⟩ := q; subst q2; exact ⟨q1, hR⟩)
theorem uM_as (l : Launch) (E : Ev) (a : Nat → Nat) (σ : Mc) (S : AS) (hR : RM σ S) (p0 p1 : Int32) : Ctr l yX6_as cX6_as 4 (some .int) 2 43 E (wM E a) [.ref (a 0), .int p0, .int p1] σ (fun v x => v = some (.int (Q_as S p0 p1)) ∧ RM x S) := by
  obtain ⟨⟨wn, rn, sn0, adn⟩, ⟨pn, pc⟩, z, y, o, hr, tl, ib, iw, ir, ih, it⟩ := S
  obtain ⟨⟨mw, msd, mn, mon, mhn, mrd, mtn, mad, mpn⟩, ⟨se, wo, jf, ow, oj, kf, ff, vf, cf, tf, pb⟩, ⟨fat, whl, nw, nwd, njn⟩, ⟨rd, so, vl, jg⟩, tko, ⟨sdn, hh_⟩, ⟨ik, kw, kh, kr, kt, kc, ko⟩⟩ := σ
  exact (c_X6_as l E a mw msd mn mon mhn mrd mtn mad mpn se wo jf ow oj kf ff vf cf tf pb fat whl nw nwd njn rd so vl jg tko sdn hh_ ik kw kh kr kt kc ko p0 p1 wn rn sn0 adn pn pc z y o hr tl ib iw ir ih it hR).mono (fun v x q => by obtain ⟨r, rfl, rfl, q2⟩ := q; exact ⟨rfl, q2⟩)
def Q_act (S : AS) (p0 : Int32) : Int32 := A_act S.2.2.1 S.2.2.2.1 S.2.2.2.2.2.1 S.1.1 p0
theorem uX_act (l : Launch) (E : Ev) (a : Nat → Nat) (σ : Xc) (S : AS) (hR : RX σ S) (p0 : Int32) : Ctr l yX5_act cX5_act 2 (some .int) 4 91 E (wX E a) [.ref (a 0), .int p0] σ (fun v x => v = some (.int (Q_act S p0)) ∧ RX x (NS_act S p0)) := by
  obtain ⟨⟨wn, rn, sn0, adn⟩, ⟨pn, pc⟩, z, y, o, hr, tl, im⟩ := S
  obtain ⟨⟨w, rds, sd, ad⟩, pg, sn, s0, s1, s2, h, t, ⟨ik, iw, ir⟩, ih, it⟩ := σ
  obtain ⟨⟨⟨hw, hw0⟩, e1, e2, had, had60⟩, ⟨hpg, hpn, hpc⟩, hz, hs, ho, hh, ht, hi⟩ := id hR
  change rds = rn at e1
  change sd = sn0 at e2
  subst e1
  subst e2
  exact (c_X5_act l E a w rds sd ad pg sn s0 s1 s2 h t ik iw ir ih it p0 z y hs hz o ho hr hh tl ht pn pc hpg hpn hpc wn hw hw0 adn had had60 im hi).mono (fun v x q => by obtain ⟨r, rfl, rfl, q2⟩ := q; exact ⟨rfl, q2⟩)
theorem uM_act (l : Launch) (E : Ev) (a : Nat → Nat) (σ : Mc) (S : AS) (hR : RM σ S) (p0 : Int32) : Ctr l yX6_act cX6_act 2 (some .int) 4 115 E (wM E a) [.ref (a 0), .int p0] σ (fun v x => v = some (.int (Q_act S p0)) ∧ RM x (NS_act S p0)) := by
  obtain ⟨⟨wn, rn, sn0, adn⟩, ⟨pn, pc⟩, z, y, o, hr, tl, ib, iw, ir, ih, it⟩ := S
  obtain ⟨⟨mw, msd, mn, mon, mhn, mrd, mtn, mad, mpn⟩, ⟨se, wo, jf, ow, oj, kf, ff, vf, cf, tf, pb⟩, ⟨fat, whl, nw, nwd, njn⟩, ⟨rd, so, vl, jg⟩, tko, ⟨sdn, hh_⟩, ⟨ik, kw, kh, kr, kt, kc, ko⟩⟩ := σ
  exact (c_X6_act l E a mw msd mn mon mhn mrd mtn mad mpn se wo jf ow oj kf ff vf cf tf pb fat whl nw nwd njn rd so vl jg tko sdn hh_ ik kw kh kr kt kc ko p0 wn rn sn0 adn pn pc z y o hr tl ib iw ir ih it hR).mono (fun v x q => by obtain ⟨r, rfl, rfl, q2⟩ := q; exact ⟨rfl, q2⟩)
def Q_round (S : AS) : Int32 := A_round S.2.2.1 S.2.2.2.1 S.2.2.2.2.2.1 S.1.1
theorem uX_round (l : Launch) (E : Ev) (a : Nat → Nat) (σ : Xc) (S : AS) (hR : RX σ S) : Ctr l yX5_round cX5_round 2 (some .int) 4 91 E (wX E a) [.ref (a 0)] σ (fun v x => v = some (.int (Q_round S)) ∧ RX x (NS_round S)) := by
  obtain ⟨⟨wn, rn, sn0, adn⟩, ⟨pn, pc⟩, z, y, o, hr, tl, im⟩ := S
  obtain ⟨⟨w, rds, sd, ad⟩, pg, sn, s0, s1, s2, h, t, ⟨ik, iw, ir⟩, ih, it⟩ := σ
  obtain ⟨⟨⟨hw, hw0⟩, e1, e2, had, had60⟩, ⟨hpg, hpn, hpc⟩, hz, hs, ho, hh, ht, hi⟩ := id hR
  change rds = rn at e1
  change sd = sn0 at e2
  subst e1
  subst e2
  exact (c_X5_round l E a w rds sd ad pg sn s0 s1 s2 h t ik iw ir ih it z y hs hz o ho hr hh tl ht pn pc hpg hpn hpc wn hw hw0 adn had had60 im hi).mono (fun v x q => by obtain ⟨r, rfl, rfl, q2⟩ := q; exact ⟨rfl, q2⟩)
theorem uM_round (l : Launch) (E : Ev) (a : Nat → Nat) (σ : Mc) (S : AS) (hR : RM σ S) : Ctr l yX6_round cX6_round 2 (some .int) 4 115 E (wM E a) [.ref (a 0)] σ (fun v x => v = some (.int (Q_round S)) ∧ RM x (NS_round S)) := by
  obtain ⟨⟨wn, rn, sn0, adn⟩, ⟨pn, pc⟩, z, y, o, hr, tl, ib, iw, ir, ih, it⟩ := S
  obtain ⟨⟨mw, msd, mn, mon, mhn, mrd, mtn, mad, mpn⟩, ⟨se, wo, jf, ow, oj, kf, ff, vf, cf, tf, pb⟩, ⟨fat, whl, nw, nwd, njn⟩, ⟨rd, so, vl, jg⟩, tko, ⟨sdn, hh_⟩, ⟨ik, kw, kh, kr, kt, kc, ko⟩⟩ := σ
  exact (c_X6_round l E a mw msd mn mon mhn mrd mtn mad mpn se wo jf ow oj kf ff vf cf tf pb fat whl nw nwd njn rd so vl jg tko sdn hh_ ik kw kh kr kt kc ko wn rn sn0 adn pn pc z y o hr tl ib iw ir ih it hR).mono (fun v x q => by obtain ⟨r, rfl, rfl, q2⟩ := q; exact ⟨rfl, q2⟩)
def Q_anyhow (S : AS) : Int32 := A_anyhow S.2.2.1 S.2.2.2.1 S.2.2.2.2.2.1
theorem uX_anyhow (l : Launch) (E : Ev) (a : Nat → Nat) (σ : Xc) (S : AS) (hR : RX σ S) : Ctr l yX5_anyhow cX5_anyhow 3 (some .int) 4 92 E (wX E a) [.ref (a 0)] σ (fun v x => v = some (.int (Q_anyhow S)) ∧ RX x S) := by
  obtain ⟨⟨wn, rn, sn0, adn⟩, ⟨pn, pc⟩, z, y, o, hr, tl, im⟩ := S
  obtain ⟨⟨w, rds, sd, ad⟩, pg, sn, s0, s1, s2, h, t, ⟨ik, iw, ir⟩, ih, it⟩ := σ
  obtain ⟨⟨⟨hw, hw0⟩, e1, e2, had, had60⟩, ⟨hpg, hpn, hpc⟩, hz, hs, ho, hh, ht, hi⟩ := id hR
  change rds = rn at e1
  change sd = sn0 at e2
  subst e1
  subst e2
  exact (c_X5_anyhow l E a w rds sd ad pg sn s0 s1 s2 h t ik iw ir ih it z y hs hr hh).mono (fun v x q => by obtain ⟨q1, q2⟩ := q; subst q2; exact ⟨q1, hR⟩)
theorem uM_anyhow (l : Launch) (E : Ev) (a : Nat → Nat) (σ : Mc) (S : AS) (hR : RM σ S) : Ctr l yX6_anyhow cX6_anyhow 1 (some .int) 5 139 E (wM E a) [.ref (a 0)] σ (fun v x => v = some (.int (Q_anyhow S)) ∧ RM x S) := by
  obtain ⟨⟨wn, rn, sn0, adn⟩, ⟨pn, pc⟩, z, y, o, hr, tl, ib, iw, ir, ih, it⟩ := S
  obtain ⟨⟨mw, msd, mn, mon, mhn, mrd, mtn, mad, mpn⟩, ⟨se, wo, jf, ow, oj, kf, ff, vf, cf, tf, pb⟩, ⟨fat, whl, nw, nwd, njn⟩, ⟨rd, so, vl, jg⟩, tko, ⟨sdn, hh_⟩, ⟨ik, kw, kh, kr, kt, kc, ko⟩⟩ := σ
  exact (c_X6_anyhow l E a mw msd mn mon mhn mrd mtn mad mpn se wo jf ow oj kf ff vf cf tf pb fat whl nw nwd njn rd so vl jg tko sdn hh_ ik kw kh kr kt kc ko wn rn sn0 adn pn pc z y o hr tl ib iw ir ih it hR).mono (fun v x q => by obtain ⟨r, rfl, rfl, q2⟩ := q; exact ⟨rfl, q2⟩)
def Q_left (S : AS) (p0 : Int32) : Int32 := A_left S.2.2.1 S.2.2.2.1 S.2.2.2.2.1 p0
theorem uX_left (l : Launch) (E : Ev) (a : Nat → Nat) (σ : Xc) (S : AS) (hR : RX σ S) (p0 : Int32) : Ctr l yX5_left cX5_left 4 (some .int) 2 43 E (wX E a) [.ref (a 0), .int p0] σ (fun v x => v = some (.int (Q_left S p0)) ∧ RX x S) := by
  obtain ⟨⟨wn, rn, sn0, adn⟩, ⟨pn, pc⟩, z, y, o, hr, tl, im⟩ := S
  obtain ⟨⟨w, rds, sd, ad⟩, pg, sn, s0, s1, s2, h, t, ⟨ik, iw, ir⟩, ih, it⟩ := σ
  obtain ⟨⟨⟨hw, hw0⟩, e1, e2, had, had60⟩, ⟨hpg, hpn, hpc⟩, hz, hs, ho, hh, ht, hi⟩ := id hR
  change rds = rn at e1
  change sd = sn0 at e2
  subst e1
  subst e2
  exact (c_X5_left l E a w rds sd ad pg sn s0 s1 s2 h t ik iw ir ih it p0 z y hs o ho).mono (fun v x q => by obtain ⟨q1, q2⟩ := q; subst q2; exact ⟨q1, hR⟩)
theorem uM_left (l : Launch) (E : Ev) (a : Nat → Nat) (σ : Mc) (S : AS) (hR : RM σ S) (p0 : Int32) : Ctr l yX6_left cX6_left 2 (some .int) 5 142 E (wM E a) [.ref (a 0), .int p0] σ (fun v x => v = some (.int (Q_left S p0)) ∧ RM x S) := by
  obtain ⟨⟨wn, rn, sn0, adn⟩, ⟨pn, pc⟩, z, y, o, hr, tl, ib, iw, ir, ih, it⟩ := S
  obtain ⟨⟨mw, msd, mn, mon, mhn, mrd, mtn, mad, mpn⟩, ⟨se, wo, jf, ow, oj, kf, ff, vf, cf, tf, pb⟩, ⟨fat, whl, nw, nwd, njn⟩, ⟨rd, so, vl, jg⟩, tko, ⟨sdn, hh_⟩, ⟨ik, kw, kh, kr, kt, kc, ko⟩⟩ := σ
  exact (c_X6_left l E a mw msd mn mon mhn mrd mtn mad mpn se wo jf ow oj kf ff vf cf tf pb fat whl nw nwd njn rd so vl jg tko sdn hh_ ik kw kh kr kt kc ko p0 wn rn sn0 adn pn pc z y o hr tl ib iw ir ih it hR).mono (fun v x q => by obtain ⟨r, rfl, rfl, q2⟩ := q; exact ⟨rfl, q2⟩)
def Q_ask (S : AS) : Int32 := A_ask S.2.2.1 S.2.2.2.1
theorem uX_ask (l : Launch) (E : Ev) (a : Nat → Nat) (σ : Xc) (S : AS) (hR : RX σ S) : Ctr l yX5_ask cX5_ask 5 (some .int) 2 44 E (wX E a) [.ref (a 0)] σ (fun v x => v = some (.int (Q_ask S)) ∧ RX x S) := by
  obtain ⟨⟨wn, rn, sn0, adn⟩, ⟨pn, pc⟩, z, y, o, hr, tl, im⟩ := S
  obtain ⟨⟨w, rds, sd, ad⟩, pg, sn, s0, s1, s2, h, t, ⟨ik, iw, ir⟩, ih, it⟩ := σ
  obtain ⟨⟨⟨hw, hw0⟩, e1, e2, had, had60⟩, ⟨hpg, hpn, hpc⟩, hz, hs, ho, hh, ht, hi⟩ := id hR
  change rds = rn at e1
  change sd = sn0 at e2
  subst e1
  subst e2
  exact (c_X5_ask l E a w rds sd ad pg sn s0 s1 s2 h t ik iw ir ih it z y hs).mono (fun v x q => by obtain ⟨q1, q2⟩ := q; subst q2; exact ⟨q1, hR⟩)
theorem uM_ask (l : Launch) (E : Ev) (a : Nat → Nat) (σ : Mc) (S : AS) (hR : RM σ S) : Ctr l yX6_ask cX6_ask 1 (some .int) 5 143 E (wM E a) [.ref (a 0)] σ (fun v x => v = some (.int (Q_ask S)) ∧ RM x S) := by
  obtain ⟨⟨wn, rn, sn0, adn⟩, ⟨pn, pc⟩, z, y, o, hr, tl, ib, iw, ir, ih, it⟩ := S
  obtain ⟨⟨mw, msd, mn, mon, mhn, mrd, mtn, mad, mpn⟩, ⟨se, wo, jf, ow, oj, kf, ff, vf, cf, tf, pb⟩, ⟨fat, whl, nw, nwd, njn⟩, ⟨rd, so, vl, jg⟩, tko, ⟨sdn, hh_⟩, ⟨ik, kw, kh, kr, kt, kc, ko⟩⟩ := σ
  exact (c_X6_ask l E a mw msd mn mon mhn mrd mtn mad mpn se wo jf ow oj kf ff vf cf tf pb fat whl nw nwd njn rd so vl jg tko sdn hh_ ik kw kh kr kt kc ko wn rn sn0 adn pn pc z y o hr tl ib iw ir ih it hR).mono (fun v x q => by obtain ⟨r, rfl, rfl, q2⟩ := q; exact ⟨rfl, q2⟩)
def Q_add (S : AS) (p0 : Int32) : Int32 := A_add S.2.2.1 S.2.2.2.1 S.1.1 S.1.2.2.2 p0
theorem uX_add (l : Launch) (E : Ev) (a : Nat → Nat) (σ : Xc) (S : AS) (hR : RX σ S) (p0 : Int32) : Ctr l yX5_add cX5_add 6 (some .int) 5 129 E (wX E a) [.ref (a 0), .int p0] σ (fun v x => v = some (.int (Q_add S p0)) ∧ RX x (NS_add S p0)) := by
  obtain ⟨⟨wn, rn, sn0, adn⟩, ⟨pn, pc⟩, z, y, o, hr, tl, im⟩ := S
  obtain ⟨⟨w, rds, sd, ad⟩, pg, sn, s0, s1, s2, h, t, ⟨ik, iw, ir⟩, ih, it⟩ := σ
  obtain ⟨⟨⟨hw, hw0⟩, e1, e2, had, had60⟩, ⟨hpg, hpn, hpc⟩, hz, hs, ho, hh, ht, hi⟩ := id hR
  change rds = rn at e1
  change sd = sn0 at e2
  subst e1
  subst e2
  exact (c_X5_add l E a w rds sd ad pg sn s0 s1 s2 h t ik iw ir ih it p0 z y hs hz o ho hr hh tl ht pn pc hpg hpn hpc wn hw hw0 adn had had60 im hi).mono (fun v x q => by obtain ⟨r, rfl, rfl, q2⟩ := q; exact ⟨rfl, q2⟩)
theorem uM_add (l : Launch) (E : Ev) (a : Nat → Nat) (σ : Mc) (S : AS) (hR : RM σ S) (p0 : Int32) : Ctr l yX6_add cX6_add 2 (some .int) 5 140 E (wM E a) [.ref (a 0), .int p0] σ (fun v x => v = some (.int (Q_add S p0)) ∧ RM x (NS_add S p0)) := by
  obtain ⟨⟨wn, rn, sn0, adn⟩, ⟨pn, pc⟩, z, y, o, hr, tl, ib, iw, ir, ih, it⟩ := S
  obtain ⟨⟨mw, msd, mn, mon, mhn, mrd, mtn, mad, mpn⟩, ⟨se, wo, jf, ow, oj, kf, ff, vf, cf, tf, pb⟩, ⟨fat, whl, nw, nwd, njn⟩, ⟨rd, so, vl, jg⟩, tko, ⟨sdn, hh_⟩, ⟨ik, kw, kh, kr, kt, kc, ko⟩⟩ := σ
  exact (c_X6_add l E a mw msd mn mon mhn mrd mtn mad mpn se wo jf ow oj kf ff vf cf tf pb fat whl nw nwd njn rd so vl jg tko sdn hh_ ik kw kh kr kt kc ko p0 wn rn sn0 adn pn pc z y o hr tl ib iw ir ih it hR).mono (fun v x q => by obtain ⟨r, rfl, rfl, q2⟩ := q; exact ⟨rfl, q2⟩)
def Q_tell (S : AS) (p0 : Int32) : Int32 := A_tell S.2.2.2.2.2.2.1 p0
theorem uX_tell (l : Launch) (E : Ev) (a : Nat → Nat) (σ : Xc) (S : AS) (hR : RX σ S) (p0 : Int32) : Ctr l yX5_tell cX5_tell 3 (some .int) 1 21 E (wX E a) [.ref (a 0), .int p0] σ (fun v x => v = some (.int (Q_tell S p0)) ∧ RX x (NS_tell S p0)) := by
  obtain ⟨⟨wn, rn, sn0, adn⟩, ⟨pn, pc⟩, z, y, o, hr, tl, im⟩ := S
  obtain ⟨⟨w, rds, sd, ad⟩, pg, sn, s0, s1, s2, h, t, ⟨ik, iw, ir⟩, ih, it⟩ := σ
  obtain ⟨⟨⟨hw, hw0⟩, e1, e2, had, had60⟩, ⟨hpg, hpn, hpc⟩, hz, hs, ho, hh, ht, hi⟩ := id hR
  change rds = rn at e1
  change sd = sn0 at e2
  subst e1
  subst e2
  exact (c_X5_tell l E a w rds sd ad pg sn s0 s1 s2 h t ik iw ir ih it p0 z y hs hz o ho hr hh tl ht pn pc hpg hpn hpc wn hw hw0 adn had had60 im hi).mono (fun v x q => by obtain ⟨r, rfl, rfl, q2⟩ := q; exact ⟨rfl, q2⟩)
theorem uM_tell (l : Launch) (E : Ev) (a : Nat → Nat) (σ : Mc) (S : AS) (hR : RM σ S) (p0 : Int32) : Ctr l yX6_tell cX6_tell 3 (some .int) 2 42 E (wM E a) [.ref (a 0), .int p0] σ (fun v x => v = some (.int (Q_tell S p0)) ∧ RM x (NS_tell S p0)) := by
  obtain ⟨⟨wn, rn, sn0, adn⟩, ⟨pn, pc⟩, z, y, o, hr, tl, ib, iw, ir, ih, it⟩ := S
  obtain ⟨⟨mw, msd, mn, mon, mhn, mrd, mtn, mad, mpn⟩, ⟨se, wo, jf, ow, oj, kf, ff, vf, cf, tf, pb⟩, ⟨fat, whl, nw, nwd, njn⟩, ⟨rd, so, vl, jg⟩, tko, ⟨sdn, hh_⟩, ⟨ik, kw, kh, kr, kt, kc, ko⟩⟩ := σ
  exact (c_X6_tell l E a mw msd mn mon mhn mrd mtn mad mpn se wo jf ow oj kf ff vf cf tf pb fat whl nw nwd njn rd so vl jg tko sdn hh_ ik kw kh kr kt kc ko p0 wn rn sn0 adn pn pc z y o hr tl ib iw ir ih it hR).mono (fun v x q => by obtain ⟨r, rfl, rfl, q2⟩ := q; exact ⟨rfl, q2⟩)
def Q_then (S : AS) (p0 : Int32) : Int32 := A_then S.2.2.2.2.2.2.1 p0
theorem uX_then (l : Launch) (E : Ev) (a : Nat → Nat) (σ : Xc) (S : AS) (hR : RX σ S) (p0 : Int32) : Ctr l yX5_then cX5_then 2 (some .int) 1 21 E (wX E a) [.ref (a 0), .int p0] σ (fun v x => v = some (.int (Q_then S p0)) ∧ RX x (NS_then S p0)) := by
  obtain ⟨⟨wn, rn, sn0, adn⟩, ⟨pn, pc⟩, z, y, o, hr, tl, im⟩ := S
  obtain ⟨⟨w, rds, sd, ad⟩, pg, sn, s0, s1, s2, h, t, ⟨ik, iw, ir⟩, ih, it⟩ := σ
  obtain ⟨⟨⟨hw, hw0⟩, e1, e2, had, had60⟩, ⟨hpg, hpn, hpc⟩, hz, hs, ho, hh, ht, hi⟩ := id hR
  change rds = rn at e1
  change sd = sn0 at e2
  subst e1
  subst e2
  exact (c_X5_then l E a w rds sd ad pg sn s0 s1 s2 h t ik iw ir ih it p0 z y hs hz o ho hr hh tl ht pn pc hpg hpn hpc wn hw hw0 adn had had60 im hi).mono (fun v x q => by obtain ⟨r, rfl, rfl, q2⟩ := q; exact ⟨rfl, q2⟩)
theorem uM_then (l : Launch) (E : Ev) (a : Nat → Nat) (σ : Mc) (S : AS) (hR : RM σ S) (p0 : Int32) : Ctr l yX6_then cX6_then 2 (some .int) 2 42 E (wM E a) [.ref (a 0), .int p0] σ (fun v x => v = some (.int (Q_then S p0)) ∧ RM x (NS_then S p0)) := by
  obtain ⟨⟨wn, rn, sn0, adn⟩, ⟨pn, pc⟩, z, y, o, hr, tl, ib, iw, ir, ih, it⟩ := S
  obtain ⟨⟨mw, msd, mn, mon, mhn, mrd, mtn, mad, mpn⟩, ⟨se, wo, jf, ow, oj, kf, ff, vf, cf, tf, pb⟩, ⟨fat, whl, nw, nwd, njn⟩, ⟨rd, so, vl, jg⟩, tko, ⟨sdn, hh_⟩, ⟨ik, kw, kh, kr, kt, kc, ko⟩⟩ := σ
  exact (c_X6_then l E a mw msd mn mon mhn mrd mtn mad mpn se wo jf ow oj kf ff vf cf tf pb fat whl nw nwd njn rd so vl jg tko sdn hh_ ik kw kh kr kt kc ko p0 wn rn sn0 adn pn pc z y o hr tl ib iw ir ih it hR).mono (fun v x q => by obtain ⟨r, rfl, rfl, q2⟩ := q; exact ⟨rfl, q2⟩)
def Q_fits (S : AS) (p0 p1 : Int32) : Int32 := A_fits S.2.2.1 S.2.2.2.1 S.2.2.2.2.2.1 S.2.2.2.2.2.2.1 p0 p1
theorem uX_fits (l : Launch) (E : Ev) (a : Nat → Nat) (σ : Xc) (S : AS) (hR : RX σ S) (p0 p1 : Int32) : Ctr l yX5_fits cX5_fits 6 (some .int) 4 92 E (wX E a) [.ref (a 0), .int p0, .int p1] σ (fun v x => v = some (.int (Q_fits S p0 p1)) ∧ RX x S) := by
  obtain ⟨⟨wn, rn, sn0, adn⟩, ⟨pn, pc⟩, z, y, o, hr, tl, im⟩ := S
  obtain ⟨⟨w, rds, sd, ad⟩, pg, sn, s0, s1, s2, h, t, ⟨ik, iw, ir⟩, ih, it⟩ := σ
  obtain ⟨⟨⟨hw, hw0⟩, e1, e2, had, had60⟩, ⟨hpg, hpn, hpc⟩, hz, hs, ho, hh, ht, hi⟩ := id hR
  change rds = rn at e1
  change sd = sn0 at e2
  subst e1
  subst e2
  exact (c_X5_fits l E a w rds sd ad pg sn s0 s1 s2 h t ik iw ir ih it p0 p1 z y hs hr hh tl ht).mono (fun v x q => by obtain ⟨q1, q2⟩ := q; subst q2; exact ⟨q1, hR⟩)
theorem uM_fits (l : Launch) (E : Ev) (a : Nat → Nat) (σ : Mc) (S : AS) (hR : RM σ S) (p0 p1 : Int32) : Ctr l yX6_fits cX6_fits 3 (some .int) 4 115 E (wM E a) [.ref (a 0), .int p0, .int p1] σ (fun v x => v = some (.int (Q_fits S p0 p1)) ∧ RM x S) := by
  obtain ⟨⟨wn, rn, sn0, adn⟩, ⟨pn, pc⟩, z, y, o, hr, tl, ib, iw, ir, ih, it⟩ := S
  obtain ⟨⟨mw, msd, mn, mon, mhn, mrd, mtn, mad, mpn⟩, ⟨se, wo, jf, ow, oj, kf, ff, vf, cf, tf, pb⟩, ⟨fat, whl, nw, nwd, njn⟩, ⟨rd, so, vl, jg⟩, tko, ⟨sdn, hh_⟩, ⟨ik, kw, kh, kr, kt, kc, ko⟩⟩ := σ
  exact (c_X6_fits l E a mw msd mn mon mhn mrd mtn mad mpn se wo jf ow oj kf ff vf cf tf pb fat whl nw nwd njn rd so vl jg tko sdn hh_ ik kw kh kr kt kc ko p0 p1 wn rn sn0 adn pn pc z y o hr tl ib iw ir ih it hR).mono (fun v x q => by obtain ⟨r, rfl, rfl, q2⟩ := q; exact ⟨rfl, q2⟩)
def Q_times (S : AS) (p0 p1 p2 : Int32) : Int32 := A_times S.2.2.1 S.2.2.2.1 S.2.2.2.2.2.1 S.1.1 p0 p1 p2
theorem uX_times (l : Launch) (E : Ev) (a : Nat → Nat) (σ : Xc) (S : AS) (hR : RX σ S) (p0 p1 p2 : Int32) : Ctr l yX5_times cX5_times 8 (some .int) 4 92 E (wX E a) [.ref (a 0), .int p0, .int p1, .int p2] σ (fun v x => v = some (.int (Q_times S p0 p1 p2)) ∧ RX x S) := by
  obtain ⟨⟨wn, rn, sn0, adn⟩, ⟨pn, pc⟩, z, y, o, hr, tl, im⟩ := S
  obtain ⟨⟨w, rds, sd, ad⟩, pg, sn, s0, s1, s2, h, t, ⟨ik, iw, ir⟩, ih, it⟩ := σ
  obtain ⟨⟨⟨hw, hw0⟩, e1, e2, had, had60⟩, ⟨hpg, hpn, hpc⟩, hz, hs, ho, hh, ht, hi⟩ := id hR
  change rds = rn at e1
  change sd = sn0 at e2
  subst e1
  subst e2
  exact (c_X5_times l E a w rds sd ad pg sn s0 s1 s2 h t ik iw ir ih it p0 p1 p2 z y hs hr hh wn hw hw0).mono (fun v x q => by obtain ⟨q1, q2⟩ := q; subst q2; exact ⟨q1, hR⟩)
theorem uM_times (l : Launch) (E : Ev) (a : Nat → Nat) (σ : Mc) (S : AS) (hR : RM σ S) (p0 p1 p2 : Int32) : Ctr l yX6_times cX6_times 4 (some .int) 5 143 E (wM E a) [.ref (a 0), .int p0, .int p1, .int p2] σ (fun v x => v = some (.int (Q_times S p0 p1 p2)) ∧ RM x S) := by
  obtain ⟨⟨wn, rn, sn0, adn⟩, ⟨pn, pc⟩, z, y, o, hr, tl, ib, iw, ir, ih, it⟩ := S
  obtain ⟨⟨mw, msd, mn, mon, mhn, mrd, mtn, mad, mpn⟩, ⟨se, wo, jf, ow, oj, kf, ff, vf, cf, tf, pb⟩, ⟨fat, whl, nw, nwd, njn⟩, ⟨rd, so, vl, jg⟩, tko, ⟨sdn, hh_⟩, ⟨ik, kw, kh, kr, kt, kc, ko⟩⟩ := σ
  exact (c_X6_times l E a mw msd mn mon mhn mrd mtn mad mpn se wo jf ow oj kf ff vf cf tf pb fat whl nw nwd njn rd so vl jg tko sdn hh_ ik kw kh kr kt kc ko p0 p1 p2 wn rn sn0 adn pn pc z y o hr tl ib iw ir ih it hR).mono (fun v x q => by obtain ⟨r, rfl, rfl, q2⟩ := q; exact ⟨rfl, q2⟩)
def Q_image (S : AS) : Int32 := nI S.1.1
theorem uX_image (l : Launch) (E : Ev) (a : Nat → Nat) (σ : Xc) (S : AS) (hR : RX σ S) : Ctr l yX5_image cX5_image 1 (some .int) 2 43 E (wX E a) [.ref (a 0)] σ (fun v x => v = some (.int (Q_image S)) ∧ RX x (NS_image S)) := by
  obtain ⟨⟨wn, rn, sn0, adn⟩, ⟨pn, pc⟩, z, y, o, hr, tl, im⟩ := S
  obtain ⟨⟨w, rds, sd, ad⟩, pg, sn, s0, s1, s2, h, t, ⟨ik, iw, ir⟩, ih, it⟩ := σ
  obtain ⟨⟨⟨hw, hw0⟩, e1, e2, had, had60⟩, ⟨hpg, hpn, hpc⟩, hz, hs, ho, hh, ht, hi⟩ := id hR
  change rds = rn at e1
  change sd = sn0 at e2
  subst e1
  subst e2
  exact (c_X5_image l E a w rds sd ad pg sn s0 s1 s2 h t ik iw ir ih it z y hs hz o ho hr hh tl ht pn pc hpg hpn hpc wn hw hw0 adn had had60 im hi).mono (fun v x q => by obtain ⟨r, rfl, rfl, q2⟩ := q; exact ⟨rfl, q2⟩)
theorem uM_image (l : Launch) (E : Ev) (a : Nat → Nat) (σ : Mc) (S : AS) (hR : RM σ S) : Ctr l yX6_image cX6_image 2 (some .int) 0 0 E (wM E a) [.ref (a 0)] σ (fun v x => v = some (.int (Q_image S)) ∧ RM x (NS_image S)) := by
  obtain ⟨⟨wn, rn, sn0, adn⟩, ⟨pn, pc⟩, z, y, o, hr, tl, ib, iw, ir, ih, it⟩ := S
  obtain ⟨⟨mw, msd, mn, mon, mhn, mrd, mtn, mad, mpn⟩, ⟨se, wo, jf, ow, oj, kf, ff, vf, cf, tf, pb⟩, ⟨fat, whl, nw, nwd, njn⟩, ⟨rd, so, vl, jg⟩, tko, ⟨sdn, hh_⟩, ⟨ik, kw, kh, kr, kt, kc, ko⟩⟩ := σ
  exact (c_X6_image l E a mw msd mn mon mhn mrd mtn mad mpn se wo jf ow oj kf ff vf cf tf pb fat whl nw nwd njn rd so vl jg tko sdn hh_ ik kw kh kr kt kc ko wn rn sn0 adn pn pc z y o hr tl ib iw ir ih it hR).mono (fun v x q => by obtain ⟨r, rfl, rfl, q2⟩ := q; exact ⟨rfl, q2⟩)
def Q_restore (S : AS) : Int32 := A_restore S
theorem uX_restore (l : Launch) (E : Ev) (a : Nat → Nat) (σ : Xc) (S : AS) (hR : RX σ S) : Ctr l yX5_restore cX5_restore 1 (some .int) 2 43 E (wX E a) [.ref (a 0)] σ (fun v x => v = some (.int (Q_restore S)) ∧ RX x (NS_restore S)) := by
  obtain ⟨⟨wn, rn, sn0, adn⟩, ⟨pn, pc⟩, z, y, o, hr, tl, im⟩ := S
  obtain ⟨⟨w, rds, sd, ad⟩, pg, sn, s0, s1, s2, h, t, ⟨ik, iw, ir⟩, ih, it⟩ := σ
  obtain ⟨⟨⟨hw, hw0⟩, e1, e2, had, had60⟩, ⟨hpg, hpn, hpc⟩, hz, hs, ho, hh, ht, hi⟩ := id hR
  change rds = rn at e1
  change sd = sn0 at e2
  subst e1
  subst e2
  exact (c_X5_restore l E a w rds sd ad pg sn s0 s1 s2 h t ik iw ir ih it z y hs hz o ho hr hh tl ht pn pc hpg hpn hpc wn hw hw0 adn had had60 im hi).mono (fun v x q => by obtain ⟨r, rfl, rfl, q2⟩ := q; exact ⟨rfl, q2⟩)
theorem uM_restore (l : Launch) (E : Ev) (a : Nat → Nat) (σ : Mc) (S : AS) (hR : RM σ S) : Ctr l yX6_restore cX6_restore 2 (some .int) 0 0 E (wM E a) [.ref (a 0)] σ (fun v x => v = some (.int (Q_restore S)) ∧ RM x (NS_restore S)) := by
  obtain ⟨⟨wn, rn, sn0, adn⟩, ⟨pn, pc⟩, z, y, o, hr, tl, ib, iw, ir, ih, it⟩ := S
  obtain ⟨⟨mw, msd, mn, mon, mhn, mrd, mtn, mad, mpn⟩, ⟨se, wo, jf, ow, oj, kf, ff, vf, cf, tf, pb⟩, ⟨fat, whl, nw, nwd, njn⟩, ⟨rd, so, vl, jg⟩, tko, ⟨sdn, hh_⟩, ⟨ik, kw, kh, kr, kt, kc, ko⟩⟩ := σ
  exact (c_X6_restore l E a mw msd mn mon mhn mrd mtn mad mpn se wo jf ow oj kf ff vf cf tf pb fat whl nw nwd njn rd so vl jg tko sdn hh_ ik kw kh kr kt kc ko wn rn sn0 adn pn pc z y o hr tl ib iw ir ih it hR).mono (fun v x q => by obtain ⟨r, rfl, rfl, q2⟩ := q; exact ⟨rfl, q2⟩)
def Q_count (S : AS) (p0 : Int32) : Int32 := cntN S p0
theorem uX_count (l : Launch) (E : Ev) (a : Nat → Nat) (σ : Xc) (S : AS) (hR : RX σ S) (p0 : Int32) : Ctr l yX5_count cX5_count 2 (some .int) 0 0 E (wX E a) [.ref (a 0), .int p0] σ (fun v x => v = some (.int (Q_count S p0)) ∧ RX x S) := by
  obtain ⟨⟨wn, rn, sn0, adn⟩, ⟨pn, pc⟩, z, y, o, hr, tl, im⟩ := S
  obtain ⟨⟨w, rds, sd, ad⟩, pg, sn, s0, s1, s2, h, t, ⟨ik, iw, ir⟩, ih, it⟩ := σ
  obtain ⟨⟨⟨hw, hw0⟩, e1, e2, had, had60⟩, ⟨hpg, hpn, hpc⟩, hz, hs, ho, hh, ht, hi⟩ := id hR
  change rds = rn at e1
  change sd = sn0 at e2
  subst e1
  subst e2
  exact (c_X5_count l E a w rds sd ad pg sn s0 s1 s2 h t ik iw ir ih it p0 z y hs o ho hr hh tl ht pn pc hpg hpn wn hw hw0 adn had im).mono (fun v x q => by obtain ⟨q1, q2⟩ := q; subst q2; exact ⟨q1, hR⟩)
theorem uM_count (l : Launch) (E : Ev) (a : Nat → Nat) (σ : Mc) (S : AS) (hR : RM σ S) (p0 : Int32) : Ctr l yX6_count cX6_count 2 (some .int) 4 89 E (wM E a) [.ref (a 0), .int p0] σ (fun v x => v = some (.int (Q_count S p0)) ∧ RM x S) := by
  obtain ⟨⟨wn, rn, sn0, adn⟩, ⟨pn, pc⟩, z, y, o, hr, tl, ib, iw, ir, ih, it⟩ := S
  obtain ⟨⟨mw, msd, mn, mon, mhn, mrd, mtn, mad, mpn⟩, ⟨se, wo, jf, ow, oj, kf, ff, vf, cf, tf, pb⟩, ⟨fat, whl, nw, nwd, njn⟩, ⟨rd, so, vl, jg⟩, tko, ⟨sdn, hh_⟩, ⟨ik, kw, kh, kr, kt, kc, ko⟩⟩ := σ
  exact (c_X6_count l E a mw msd mn mon mhn mrd mtn mad mpn se wo jf ow oj kf ff vf cf tf pb fat whl nw nwd njn rd so vl jg tko sdn hh_ ik kw kh kr kt kc ko p0 wn rn sn0 adn pn pc z y o hr tl ib iw ir ih it hR).mono (fun v x q => by obtain ⟨r, rfl, rfl, q2⟩ := q; exact ⟨rfl, q2⟩)
def Q_digest (S : AS) : Int64 := A_digest S
theorem uX_digest (l : Launch) (E : Ev) (a : Nat → Nat) (σ : Xc) (S : AS) (hR : RX σ S) : Ctr l yX5_digest cX5_digest 4 (some .long) 6 142 E (wX E a) [.ref (a 0)] σ (fun v x => v = some (.long (Q_digest S)) ∧ RX x S) := by
  obtain ⟨⟨wn, rn, sn0, adn⟩, ⟨pn, pc⟩, z, y, o, hr, tl, im⟩ := S
  obtain ⟨⟨w, rds, sd, ad⟩, pg, sn, s0, s1, s2, h, t, ⟨ik, iw, ir⟩, ih, it⟩ := σ
  obtain ⟨⟨⟨hw, hw0⟩, e1, e2, had, had60⟩, ⟨hpg, hpn, hpc⟩, hz, hs, ho, hh, ht, hi⟩ := id hR
  change rds = rn at e1
  change sd = sn0 at e2
  subst e1
  subst e2
  exact (c_X5_digest l E a w rds sd ad pg sn s0 s1 s2 h t ik iw ir ih it z y hs hz o ho hr hh tl ht pn pc hpg hpn hpc wn hw hw0 adn had had60 im hi).mono (fun v x q => by obtain ⟨q1, q2⟩ := q; subst q2; exact ⟨q1, hR⟩)
theorem uM_digest (l : Launch) (E : Ev) (a : Nat → Nat) (σ : Mc) (S : AS) (hR : RM σ S) : Ctr l yX6_digest cX6_digest 3 (some .long) 5 143 E (wM E a) [.ref (a 0)] σ (fun v x => v = some (.long (Q_digest S)) ∧ RM x S) := by
  obtain ⟨⟨wn, rn, sn0, adn⟩, ⟨pn, pc⟩, z, y, o, hr, tl, ib, iw, ir, ih, it⟩ := S
  obtain ⟨⟨mw, msd, mn, mon, mhn, mrd, mtn, mad, mpn⟩, ⟨se, wo, jf, ow, oj, kf, ff, vf, cf, tf, pb⟩, ⟨fat, whl, nw, nwd, njn⟩, ⟨rd, so, vl, jg⟩, tko, ⟨sdn, hh_⟩, ⟨ik, kw, kh, kr, kt, kc, ko⟩⟩ := σ
  exact (c_X6_digest l E a mw msd mn mon mhn mrd mtn mad mpn se wo jf ow oj kf ff vf cf tf pb fat whl nw nwd njn rd so vl jg tko sdn hh_ ik kw kh kr kt kc ko wn rn sn0 adn pn pc z y o hr tl ib iw ir ih it hR).mono (fun v x q => by obtain ⟨r, rfl, rfl, q2⟩ := q; exact ⟨rfl, q2⟩)
