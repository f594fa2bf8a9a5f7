section ZSW
variable {Z M : Mem} {t j pl : Nat} {g : Nat → Nat} {sq : Int32}
theorem GO.s_no (hT : StR M Z) (h6 : 6 ≤ t) (hj : ¬ g 8 % 64 < 4) : GO (fSgX Z g (3 + t) sq) (rSgX Z g (3 + t) sq) sq Z M (gB M) := by
  unfold fSgX rSgX fSeg rSeg
  have a1 : ¬ 3 + t = 8 := by omega
  have a2 : 3 < g 8 % 64 := by omega
  rw [if_neg a1, if_pos a2, if_neg a1, if_pos a2]
  exact GO.none hT
theorem GO.s_lost (hT : StR M Z) (hX : XSt Z) (h6 : 6 ≤ t) (hj : g 8 % 64 = j) (hj4 : j < 4) (h256 : g 8 < 256) (hk : g 8 / 64 % 2 = 0) (hb : Z 79 j = 0 ∨ ¬ pX Z j + (3 + t - 9) ≤ 60) : GO (fSgX Z g (3 + t) sq) (rSgX Z g (3 + t) sq) sq Z M (gT M j) := by
  have e := sgX_eq (Z := Z) (sq := sq) (show ¬ t = 5 by omega) hj hj4
  rw [e.1, e.2, if_neg (show ¬ g 8 / 64 = 3 by omega), if_neg (show ¬ g 8 / 64 = 3 by omega), if_neg (show ¬ g 8 / 64 = 1 by omega), if_neg (show ¬ g 8 / 64 = 1 by omega)]
  have q : (if g 8 / 64 = 2 then segM2 Z (3 + t) j sq else fGo Z j (3 + t) (pX Z j)) = mu Z 79 j (nI 0) ∧ (if g 8 / 64 = 2 then segR2 Z (3 + t) j sq else 1) = 1 := by
    unfold segM2 segR2 fGo
    by_cases z : Z 79 j = 0
    · rw [if_pos z, if_pos z, if_pos z]; exact ⟨by split <;> rfl, by split <;> rfl⟩
    · have y : ¬ pX Z j + (3 + t - 9) ≤ 60 := by rcases hb with w | w; exact absurd w z; exact w
      rw [if_neg z, if_neg z, if_neg z, if_neg y, if_neg y, if_neg y]; exact ⟨by split <;> rfl, by split <;> rfl⟩
  rw [q.1, q.2]
  exact GO.lost hT hX hj4
theorem GO.s_0 (hT : StR M Z) (hX : XSt Z) (hF : FrR t g M Z) (h6 : 6 ≤ t) (hj : g 8 % 64 = j) (hj4 : j < 4) (h256 : g 8 < 256) (hk : g 8 / 64 % 2 = 0) (hk2 : g 8 / 128 = 0) (hb : ¬ Z 79 j = 0) (hpl : pX Z j = pl) (h60 : pl + (3 + t - 9) ≤ 60) : GO (fSgX Z g (3 + t) sq) (rSgX Z g (3 + t) sq) sq Z M (mu (gR M t j pl) 55 9 (nI 1)) := by
  have e := sgX_eq (Z := Z) (sq := sq) (show ¬ t = 5 by omega) hj hj4
  rw [e.1, e.2, if_neg (show ¬ g 8 / 64 = 3 by omega), if_neg (show ¬ g 8 / 64 = 3 by omega), if_neg (show ¬ g 8 / 64 = 1 by omega), if_neg (show ¬ g 8 / 64 = 1 by omega), if_neg (show ¬ g 8 / 64 = 2 by omega), if_neg (show ¬ g 8 / 64 = 2 by omega)]
  unfold fGo
  rw [if_neg hb, hpl, if_pos h60]
  exact GO.k0 hT hX hF h6 hj4 hb hpl h60
theorem GO.s_1 (hT : StR M Z) (hX : XSt Z) (hF : FrR t g M Z) (h6 : 6 ≤ t) (hj : g 8 % 64 = j) (hj4 : j < 4) (h256 : g 8 < 256) (hk : ¬ g 8 / 64 % 2 = 0) (hk2 : g 8 / 128 = 0) : GO (fSgX Z g (3 + t) sq) (rSgX Z g (3 + t) sq) sq Z M (mu (gR M t j 0) 55 9 (nI 1)) := by
  have e := sgX_eq (Z := Z) (sq := sq) (show ¬ t = 5 by omega) hj hj4
  rw [e.1, e.2, if_neg (show ¬ g 8 / 64 = 3 by omega), if_neg (show ¬ g 8 / 64 = 3 by omega), if_pos (show g 8 / 64 = 1 by omega), if_pos (show g 8 / 64 = 1 by omega)]
  exact GO.k1 hT hX hF h6 hj4
theorem GO.s_2 (hT : StR M Z) (hX : XSt Z) (hF : FrR t g M Z) (h6 : 6 ≤ t) (ho : Z 76 3 = 0) (hsq : sq = 0 ∨ sq = 1) (hj : g 8 % 64 = j) (hj4 : j < 4) (h256 : g 8 < 256) (hk : g 8 / 64 % 2 = 0) (hk2 : ¬ g 8 / 128 = 0) (hb : ¬ Z 79 j = 0) (hpl : pX Z j = pl) (h60 : pl + (3 + t - 9) ≤ 60) : GO (fSgX Z g (3 + t) sq) (rSgX Z g (3 + t) sq) sq Z M (fOne (mu (gR M t j pl) 55 9 (nI 0)) (fun k => tX (segG Z (3 + t) j) (60 * j + k)) (pl + (t - 5 - 1))) := by
  have e := sgX_eq (Z := Z) (sq := sq) (show ¬ t = 5 by omega) hj hj4
  rw [e.1, e.2, if_neg (show ¬ g 8 / 64 = 3 by omega), if_neg (show ¬ g 8 / 64 = 3 by omega), if_neg (show ¬ g 8 / 64 = 1 by omega), if_neg (show ¬ g 8 / 64 = 1 by omega), if_pos (show g 8 / 64 = 2 by omega), if_pos (show g 8 / 64 = 2 by omega)]
  exact GO.k2 hT hX hF h6 hj4 ho hsq hb hpl h60
theorem GO.s_3 (hT : StR M Z) (hX : XSt Z) (hF : FrR t g M Z) (h6 : 6 ≤ t) (ho : Z 76 3 = 0) (hj : g 8 % 64 = j) (hj4 : j < 4) (h256 : g 8 < 256) (hk : ¬ g 8 / 64 % 2 = 0) (hk2 : ¬ g 8 / 128 = 0) : GO (fSgX Z g (3 + t) sq) (rSgX Z g (3 + t) sq) sq Z M (fOne (mu (gR M t j 0) 55 9 (nI 0)) (fun k => g (9 + k)) (0 + (t - 5 - 1))) := by
  have e := sgX_eq (Z := Z) (sq := sq) (show ¬ t = 5 by omega) hj hj4
  rw [e.1, e.2, if_pos (show g 8 / 64 = 3 by omega), if_pos (show g 8 / 64 = 3 by omega)]
  exact GO.k3 hT hX hF h6 hj4 ho
/-- the row of the harvest, as numbers -/
theorem gR_by (hF : FrR t g M Z) (hT : StR M Z) (hX : XSt Z) (h6 : 6 ≤ t) (hj4 : j < 4) (hb : ¬ Z 79 j = 0) (hpl : pX Z j = pl) (h60 : pl + (3 + t - 9) ≤ 60) : ∀ k, k < pl + (t - 5 - 1) → gR M t j pl 57 k = nI (tX (segG Z (3 + t) j) (60 * j + k)) ∧ tX (segG Z (3 + t) j) (60 * j + k) < 256 := by
  intro k hk
  obtain ⟨f1, f2, f3, f4, f5, f6⟩ := id hF
  have hs := (hX j hj4).2 hb
  have hm := (hT j hj4).2 hb
  rw [hpl] at hs hm
  have hsg : segG Z (3 + t) j = goL j (3 + t - 9) 9 pl Z := by unfold segG; rw [hpl]
  rw [hsg]
  obtain ⟨v, hv, e⟩ := goL_bytes (j := j) (pl := pl) (en := 3 + t) hs.2.2 (by omega) f5 f6 (60 * j + k) (by omega) (by omega)
  have : tX (goL j (3 + t - 9) 9 pl Z) (60 * j + k) = v := by unfold tX; rw [e, nI_clamp (by omega)]
  rw [this, gR_go hF h6 h60 rfl hm.2 k hk]; exact ⟨e, hv⟩
theorem gR_by0 (hF : FrR t g M Z) (h6 : 6 ≤ t) : ∀ k, k < 0 + (t - 5 - 1) → gR M t j 0 57 k = nI (g (9 + k)) ∧ g (9 + k) < 256 := by
  intro k hk
  obtain ⟨f1, f2, f3, f4, f5, f6⟩ := hF
  rw [gR_57 _ _ _ _ _ hk, if_neg (by omega), f4 _ (by omega)]
  exact ⟨by congr 2; omega, f6 _ (by omega)⟩
end ZSW
