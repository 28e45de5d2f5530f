/-! BOTH CALLS TOGETHER: the answers are the same, and the states stay tied -/
def LI (E : xE) (ax : Nat → Nat) (mo : Nat) (ad : Nat → Nat) (w w' : va_W) : Prop := ∃ (kn nn ln : Nat) (fs fu : Nat → Int64) (gi : Nat → Nat → Int32) (ra : Nat → Nat) (pr : Nat → RowP) (ci : Nat → Option Nat) (rev sea : Int32) (th : Int32) (mn dp : Nat) (am : Nat → Nat → Int32) (al : Nat → Nat → Int64), w = CW E ax kn nn ln fs fu gi ra pr ci rev sea ∧ w' = MW E mo ad th kn nn mn dp am al ∧ Rl kn nn fs fu (gi 0) (gi 1) pr ci rev (gi 5) am al
theorem LI.mk {E : xE} {ax : Nat → Nat} {mo : Nat} {ad : Nat → Nat} {kn nn ln : Nat} {fs fu : Nat → Int64} {gi : Nat → Nat → Int32} {ra : Nat → Nat} {pr : Nat → RowP} {ci : Nat → Option Nat} {rev sea : Int32} {th : Int32} {mn dp : Nat} {am : Nat → Nat → Int32} {al : Nat → Nat → Int64} (R : Rl kn nn fs fu (gi 0) (gi 1) pr ci rev (gi 5) am al) : LI E ax mo ad (CW E ax kn nn ln fs fu gi ra pr ci rev sea) (MW E mo ad th kn nn mn dp am al) := ⟨kn, nn, ln, fs, fu, gi, ra, pr, ci, rev, sea, th, mn, dp, am, al, rfl, rfl, R⟩
theorem scr5 (am : Nat → Nat → Int32) (al : Nat → Nat → Int64) (g29 g30 g34 g35 g36 : Nat → Int32) : oth am (uA (uA (uA (uA (uA am 29 g29) 30 g30) 34 g34) 35 g35) 36 g36) al al ∧ (∀ q, agr am (uA (uA (uA (uA (uA am 29 g29) 30 g30) 34 g34) 35 g35) 36 g36) al al q) ∧ (uA (uA (uA (uA (uA am 29 g29) 30 g30) 34 g34) 35 g35) 36 g36) 24 = am 24 ∧ (uA (uA (uA (uA (uA am 29 g29) 30 g30) 34 g34) 35 g35) 36 g36) 25 = am 25 :=
  ⟨⟨⟨rfl, rfl, rfl, rfl, rfl, rfl, rfl⟩, rfl, rfl⟩, fun q => ⟨⟨rfl, rfl, rfl, rfl, rfl, rfl, rfl, rfl⟩, fun _ _ => rfl, fun _ _ => ⟨rfl, rfl⟩, fun _ _ => ⟨rfl, rfl⟩, fun _ _ => ⟨rfl, rfl, rfl, rfl⟩, fun _ _ => ⟨rfl, rfl⟩⟩, rfl, rfl⟩
section BD
variable {E : xE} {ax : Nat → Nat} {mo : Nat} {ad : Nat → Nat} {kn nn ln : Nat} {fs fu : Nat → Int64} {gi : Nat → Nat → Int32} {ra : Nat → Nat} {pr : Nat → RowP} {ci : Nat → Option Nat} {rev sea : Int32} {th : Int32} {mn dp : Nat} {am : Nat → Nat → Int32} {al : Nat → Nat → Int64} {w w' : va_W} {r r' : Int32}
theorem bd_key (R : Rl kn nn fs fu (gi 0) (gi 1) pr ci rev (gi 5) am al) {a b : Int64} (h : cq_key E ax kn nn ln fs fu gi ra pr ci rev sea a b r w) (h' : mq_key E mo ad th kn nn mn dp am al pr ci a b r' w') : r = r' ∧ LI E ax mo ad w w' := by
  obtain ⟨n2, gs, gu, rfl, h⟩ := h
  obtain ⟨n3, g3, g4, rfl, h'⟩ := h'
  obtain ⟨e1, rfl, R'⟩ := st_key R h h'
  exact ⟨e1, LI.mk R'⟩
theorem bd_quorum (R : Rl kn nn fs fu (gi 0) (gi 1) pr ci rev (gi 5) am al) {y v : Int32} (h : cq_quorum E ax kn nn ln fs fu gi ra pr ci rev sea y v r w) (h' : mq_quorum E mo ad th kn nn mn dp am al pr ci y v r' w') : r = r' ∧ LI E ax mo ad w w' := by
  obtain ⟨gn, rfl, h⟩ := h
  obtain ⟨g6, rfl, h'⟩ := h'
  obtain ⟨e1, R'⟩ := st_quorum R h h'
  exact ⟨e1, LI.mk (gi := uA gi 0 gn) R'⟩
theorem bd_holds (R : Rl kn nn fs fu (gi 0) (gi 1) pr ci rev (gi 5) am al) {y z on : Int32} (h : cq_holds E ax kn nn ln fs fu gi ra pr ci rev sea y z on r w) (h' : mq_holds E mo ad th kn nn mn dp am al pr ci y z on r' w') : r = r' ∧ LI E ax mo ad w w' := by
  obtain ⟨gm, rfl, h⟩ := h
  obtain ⟨g7, rfl, h'⟩ := h'
  obtain ⟨e1, R'⟩ := st_holds R h h'
  exact ⟨e1, LI.mk (gi := uA gi 1 gm) R'⟩
theorem bd_row (R : Rl kn nn fs fu (gi 0) (gi 1) pr ci rev (gi 5) am al) {y v : Int32} {u : Int64} (h : cq_row E ax kn nn ln fs fu gi ra pr ci rev sea y v u r w) (h' : mq_row E mo ad th kn nn mn dp am al pr ci y v u r' w') : r = r' ∧ LI E ax mo ad w w' := by
  rcases h with ⟨j, h1, h2, h3, h4, a2, w0, gn, gm, rfl, rfl, h5⟩ | ⟨hn, rfl, rfl⟩
  · rcases h' with ⟨j', g1, g2, g3, g4, g10, g11, g14, g8, g9, rfl, rfl, g5⟩ | ⟨hn, -⟩
    · have e : j = j' := (nI_eq (by omega) (by omega)).mp (h2.symm.trans g2)
      subst e
      exact ⟨rfl, LI.mk (st_row (ad := a2) R h4 h1 h3 h5 g5)⟩
    · exact absurd ⟨⟨j, h1, h2⟩, h3, h4⟩ hn
  · rcases h' with ⟨j', g1, g2, g3, g4, -⟩ | ⟨-, rfl, rfl⟩
    · exact absurd ⟨⟨j', g1, g2⟩, g3, g4⟩ hn
    · exact ⟨rfl, LI.mk R⟩
theorem bd_octet (R : Rl kn nn fs fu (gi 0) (gi 1) pr ci rev (gi 5) am al) {y b : Int32} (h : cq_octet E ax kn nn ln fs fu gi ra pr ci rev sea y b r w) (h' : mq_octet E mo ad th kn nn mn dp am al pr ci y b r' w') : r = r' ∧ LI E ax mo ad w w' := by
  obtain ⟨g12, g13, rfl, h'⟩ := h'
  rcases h with ⟨i, hi, hy, oc2, go, rfl, h⟩ | ⟨hn, rfl, rfl⟩
  · obtain ⟨e1, R'⟩ := st_octet R hi hy h h'
    exact ⟨e1, LI.mk R'⟩
  · rcases h' with ⟨i, g1, g2, -⟩ | ⟨-, rfl, rfl, rfl⟩
    · exact absurd ⟨i, g1, g2⟩ hn
    · refine ⟨rfl, ?_⟩
      rw [uA_id, uA_id]
      exact LI.mk R
theorem bd_tells (R : Rl kn nn fs fu (gi 0) (gi 1) pr ci rev (gi 5) am al) {y z v : Int32} (h : cq_tells E ax kn nn ln fs fu gi ra pr ci rev sea y z v r w) (h' : mq_tells E mo ad th kn nn mn dp am al pr ci y z v r' w') : r = r' ∧ LI E ax mo ad w w' := by
  obtain ⟨g15, g16, g17, rfl, h'⟩ := h'
  rcases h with ⟨i, hi, hy, n2, gr, gv, rfl, h⟩ | ⟨hn, rfl, rfl⟩
  · obtain ⟨e1, R'⟩ := st_tells R hi hy h h'
    exact ⟨e1, LI.mk R'⟩
  · rcases h' with ⟨i, g1, g2, -⟩ | ⟨-, rfl, rfl, rfl, rfl⟩
    · exact absurd ⟨i, g1, g2⟩ hn
    · refine ⟨rfl, ?_⟩
      rw [uA_id, uA_id, uA_id]
      exact LI.mk R
theorem bd_delegate (R : Rl kn nn fs fu (gi 0) (gi 1) pr ci rev (gi 5) am al) {y u z en : Int32} (h : cq_delegate E ax kn nn ln fs fu gi ra pr ci rev sea y u z en r w) (h' : mq_delegate E mo ad th kn nn mn dp am al pr ci y u z en r' w') : r = r' ∧ LI E ax mo ad w w' := by
  obtain ⟨g18, g19, g20, g21, rfl, h'⟩ := h'
  rcases h with ⟨i, hi, hy, n2, gp, gt, ge, rfl, h⟩ | ⟨hn, rfl, rfl⟩
  · obtain ⟨e1, R'⟩ := st_delegate R hi hy h h'
    exact ⟨e1, LI.mk R'⟩
  · rcases h' with ⟨i, g1, g2, -⟩ | ⟨-, rfl, rfl, rfl, rfl, rfl⟩
    · exact absurd ⟨i, g1, g2⟩ hn
    · refine ⟨rfl, ?_⟩
      rw [uA_id, uA_id, uA_id, uA_id]
      exact LI.mk R
theorem bd_lists (R : Rl kn nn fs fu (gi 0) (gi 1) pr ci rev (gi 5) am al) {y u : Int32} (h : cq_lists E ax kn nn ln fs fu gi ra pr ci rev sea y u r w) (h' : mq_lists E mo ad th kn nn mn dp am al pr ci y u r' w') : r = r' ∧ LI E ax mo ad w w' := by
  obtain ⟨g22, g23, rfl, h'⟩ := h'
  rcases h with ⟨i, hi, hy, pn2, gh, rfl, h⟩ | ⟨hn, rfl, rfl⟩
  · obtain ⟨e1, R'⟩ := st_lists R hi hy h h'
    exact ⟨e1, LI.mk R'⟩
  · rcases h' with ⟨i, g1, g2, -⟩ | ⟨-, rfl, rfl, rfl⟩
    · exact absurd ⟨i, g1, g2⟩ hn
    · refine ⟨rfl, ?_⟩
      rw [uA_id, uA_id]
      exact LI.mk R
theorem bd_sign (R : Rl kn nn fs fu (gi 0) (gi 1) pr ci rev (gi 5) am al) {y z : Int32} {q q' : Int64} (h : cq_sign E ax kn nn ln fs fu gi ra pr ci rev sea y z q w) (h' : mq_sign E mo ad th kn nn mn dp am al pr ci y z q' w') : q = q' ∧ LI E ax mo ad w w' := by
  obtain ⟨m2, g29, g30, g34, g35, g36, g24, g25, g26, rfl, h'⟩ := h'
  obtain ⟨s1, s2, s3⟩ := scr5 am al g29 g30 g34 g35 g36
  rcases h with ⟨i, hi, hy, sn2, rk2, l2, g, gc, ga, rfl, h⟩ | ⟨hn, rfl, rfl⟩
  · obtain ⟨e1, R'⟩ := st_sign R hi hy s1 s2 s3 h h'
    exact ⟨e1, LI.mk (gi := uA (uA (uA gi 2 g) 3 gc) 4 ga) R'⟩
  · rcases h' with ⟨i, k, g1, g2, -⟩ | ⟨-, rfl, rfl, rfl, rfl⟩
    · exact absurd ⟨i, g1, g2⟩ hn
    · refine ⟨rfl, ?_⟩
      rw [← s3.1, uA_id, ← s3.2, uA_id, uJ_id]
      exact LI.mk (Rl.scr R s1 s2)
theorem bd_forge (R : Rl kn nn fs fu (gi 0) (gi 1) pr ci rev (gi 5) am al) {y z : Int32} {sv : Int64} (h : cq_forge E ax kn nn ln fs fu gi ra pr ci rev sea y z sv r w) (h' : mq_forge E mo ad th kn nn mn dp am al pr ci y z sv r' w') : r = r' ∧ LI E ax mo ad w w' := by
  obtain ⟨g24, g25, g26, rfl, h'⟩ := h'
  rcases h with ⟨i, hi, hy, sn2, rk2, l2, g, gc, ga, rfl, h⟩ | ⟨hn, rfl, rfl⟩
  · obtain ⟨e1, R'⟩ := st_forge R hi hy h h'
    exact ⟨e1, LI.mk (gi := uA (uA (uA gi 2 g) 3 gc) 4 ga) R'⟩
  · rcases h' with ⟨i, k, g1, g2, -⟩ | ⟨-, rfl, rfl, rfl, rfl⟩
    · exact absurd ⟨i, g1, g2⟩ hn
    · refine ⟨rfl, ?_⟩
      rw [uA_id, uA_id, uJ_id]
      exact LI.mk R
theorem bd_verify (R : Rl kn nn fs fu (gi 0) (gi 1) pr ci rev (gi 5) am al) {y : Int32} {t : Int64} (h : cq_verify E ax kn nn ln fs fu gi ra pr ci rev sea y t r w) (h' : mq_verify E mo ad th kn nn mn dp am al pr ci y t r' w') : r = r' ∧ LI E ax mo ad w w' := by
  have hn := R.1.2
  rcases h with ⟨i, hi, hy, rfl, h⟩ | ⟨hn, rfl, rfl⟩
  · rcases h' with ⟨i', g1, g2, m2, g29, g30, g34, g35, g36, rfl, h'⟩ | ⟨hn, -⟩
    · have e : i = i' := (nI_eq (by omega) (by omega)).mp (hy.symm.trans g2)
      subst e
      obtain ⟨s1, s2, -⟩ := scr5 am al g29 g30 g34 g35 g36
      rw [rule_c R hi] at h'
      refine ⟨?_, LI.mk (Rl.scr R s1 s2)⟩
      rcases h with ⟨a1, rfl⟩ | ⟨a1, rfl⟩ <;> rcases h' with ⟨b1, rfl⟩ | ⟨b1, rfl⟩
      · rfl
      · exact absurd a1 b1
      · exact absurd b1 a1
      · rfl
    · exact absurd ⟨i, hi, hy⟩ hn
  · rcases h' with ⟨i', g1, g2, -⟩ | ⟨-, rfl, rfl⟩
    · exact absurd ⟨i', g1, g2⟩ hn
    · exact ⟨rfl, LI.mk R⟩
theorem bd_update (R : Rl kn nn fs fu (gi 0) (gi 1) pr ci rev (gi 5) am al) {y : Int32} {t : Int64} (h : cq_update E ax kn nn ln fs fu gi ra pr ci rev sea y t r w) (h' : mq_update E mo ad th kn nn mn dp am al pr ci y t r' w') : r = r' ∧ LI E ax mo ad w w' := by
  have hn := R.1.2
  rcases h with ⟨i, hi, hy, h⟩ | ⟨hn, rfl, rfl⟩
  · rcases h' with ⟨i', g1, g2, m2, g29, g30, g34, g35, g36, g27, rfl, h'⟩ | ⟨hn, -⟩
    · have e : i = i' := (nI_eq (by omega) (by omega)).mp (hy.symm.trans g2)
      subst e
      obtain ⟨s1, s2, -⟩ := scr5 am al g29 g30 g34 g35 g36
      rw [rule_c R hi] at h'
      have R2 := Rl.scr R s1 s2
      rcases h with ⟨a1, rfl, rfl⟩ | ⟨a1, rfl, rfl⟩ <;> rcases h' with ⟨b1, rfl, rfl⟩ | ⟨b1, rfl, rfl⟩
      · exact ⟨rfl, LI.mk (st_take R2 hi)⟩
      · exact absurd a1 b1
      · exact absurd b1 a1
      · refine ⟨rfl, ?_⟩
        rw [show am 27 = (uA (uA (uA (uA (uA am 29 g29) 30 g30) 34 g34) 35 g35) 36 g36) 27 from rfl, uA_id]
        exact LI.mk R2
    · exact absurd ⟨i, hi, hy⟩ hn
  · rcases h' with ⟨i', g1, g2, -⟩ | ⟨-, rfl, rfl⟩
    · exact absurd ⟨i', g1, g2⟩ hn
    · exact ⟨rfl, LI.mk R⟩
theorem bd_revoke (R : Rl kn nn fs fu (gi 0) (gi 1) pr ci rev (gi 5) am al) {y : Int32} (h : cq_revoke E ax kn nn ln fs fu gi ra pr ci rev sea y r w) (h' : mq_revoke E mo ad th kn nn mn dp am al pr ci y r' w') : r = r' ∧ LI E ax mo ad w w' := by
  obtain ⟨rev2, rfl, h⟩ := h
  obtain ⟨g5, rfl, h'⟩ := h'
  obtain ⟨e1, R'⟩ := st_revoke (e1 := vp_nar .boolean 1) R (by decide) h h'
  exact ⟨e1, LI.mk R'⟩
theorem bd_find (R : Rl kn nn fs fu (gi 0) (gi 1) pr ci rev (gi 5) am al) {u : Int32} (h : cq_find E ax kn nn ln fs fu gi ra pr ci rev sea u r w) (h' : mq_find E mo ad th kn nn mn dp am al pr ci u r' w') : r = r' ∧ LI E ax mo ad w w' := by
  obtain ⟨sea2, rfl, h⟩ := h
  obtain ⟨d2, g37, g39, g40, rfl, h'⟩ := h'
  rw [find_c R] at h'
  refine ⟨?_, LI.mk (Rl.scr R ⟨⟨rfl, rfl, rfl, rfl, rfl, rfl, rfl⟩, rfl, rfl⟩ (fun q => ⟨⟨rfl, rfl, rfl, rfl, rfl, rfl, rfl, rfl⟩, fun _ _ => rfl, fun _ _ => ⟨rfl, rfl⟩, fun _ _ => ⟨rfl, rfl⟩, fun _ _ => ⟨rfl, rfl, rfl, rfl⟩, fun _ _ => ⟨rfl, rfl⟩⟩))⟩
  rcases h with ⟨a1, rfl⟩ | ⟨a1, rfl⟩ <;> rcases h' with ⟨b1, rfl⟩ | ⟨b1, rfl⟩
  · rfl
  · exact absurd a1 b1
  · exact absurd b1 a1
  · rfl
theorem bd_version (R : Rl kn nn fs fu (gi 0) (gi 1) pr ci rev (gi 5) am al) {y : Int32} (h : cq_version E ax kn nn ln fs fu gi ra pr ci rev sea y r w) (h' : mq_version E mo ad th kn nn mn dp am al pr ci y r' w') : r = r' ∧ LI E ax mo ad w w' := by
  obtain ⟨rfl, h⟩ := h
  obtain ⟨rfl, h'⟩ := h'
  exact ⟨st_version R h h', LI.mk R⟩
theorem bd_current (R : Rl kn nn fs fu (gi 0) (gi 1) pr ci rev (gi 5) am al) {y : Int32} (h : cq_current E ax kn nn ln fs fu gi ra pr ci rev sea y r w) (h' : mq_current E mo ad th kn nn mn dp am al pr ci y r' w') : r = r' ∧ LI E ax mo ad w w' := by
  obtain ⟨rfl, h⟩ := h
  obtain ⟨rfl, h'⟩ := h'
  exact ⟨st_current R h h', LI.mk R⟩
theorem bd_hash (R : Rl kn nn fs fu (gi 0) (gi 1) pr ci rev (gi 5) am al) {y : Int32} (h : cq_hash E ax kn nn ln fs fu gi ra pr ci rev sea y r w) (h' : mq_hash E mo ad th kn nn mn dp am al pr ci y r' w') : r = r' ∧ LI E ax mo ad w w' := by
  have hn := R.1.2
  rcases h with ⟨i, hi, hy, l2, g, gc, ga, gd, rfl, rfl, h⟩ | ⟨hn, rfl, rfl⟩
  · rcases h' with ⟨i', g1, g2, m2, g29, g30, g34, g35, g36, g31, rfl, rfl, h'⟩ | ⟨hn, -⟩
    · have e : i = i' := (nI_eq (by omega) (by omega)).mp (hy.symm.trans g2)
      subst e
      obtain ⟨s1, s2, -⟩ := scr5 am al g29 g30 g34 g35 g36
      obtain ⟨e1, R'⟩ := st_hash R hi s1 s2 h h'
      exact ⟨by rw [← e1]; rfl, LI.mk (gi := uA (uA (uA (uA gi 2 g) 3 gc) 4 ga) 5 gd) R'⟩
    · exact absurd ⟨i, hi, hy⟩ hn
  · rcases h' with ⟨i', g1, g2, -⟩ | ⟨-, rfl, rfl⟩
    · exact absurd ⟨i', g1, g2⟩ hn
    · exact ⟨rfl, LI.mk R⟩
theorem bd_about (R : Rl kn nn fs fu (gi 0) (gi 1) pr ci rev (gi 5) am al) {y z : Int32} (h : cq_about E ax kn nn ln fs fu gi ra pr ci rev sea y z r w) (h' : mq_about E mo ad th kn nn mn dp am al pr ci y z r' w') : r = r' ∧ LI E ax mo ad w w' := by
  have hn := R.1.2
  rcases h with ⟨i, hi, hy, rfl, rfl, -⟩ | ⟨hn, rfl, rfl⟩
  · rcases h' with ⟨i', g1, g2, m2, g29, g30, g34, g35, g36, rfl, rfl, -⟩ | ⟨hn, -⟩
    · have e : i = i' := (nI_eq (by omega) (by omega)).mp (hy.symm.trans g2)
      subst e
      obtain ⟨s1, s2, -⟩ := scr5 am al g29 g30 g34 g35 g36
      exact ⟨st_about R hi z, LI.mk (Rl.scr R s1 s2)⟩
    · exact absurd ⟨i, hi, hy⟩ hn
  · rcases h' with ⟨i', g1, g2, -⟩ | ⟨-, rfl, rfl⟩
    · exact absurd ⟨i', g1, g2⟩ hn
    · exact ⟨rfl, LI.mk R⟩
end BD
