section ZLB
/-- dancers at p with faces f: those of the row R -/
def gDn (me : zMe) (p f : Nat) (R : zRg) : Prop := ∀ i, 0 ≤ i → i < 10 → me p i = zpl R.1 i ∧ me f i = R.2 (zpl R.1 i)
theorem gDn.bd {me : zMe} {p f : Nat} {R : zRg} (hR : zgR R.1 R.2) (h : gDn me p f R) {i : Int} (i0 : 0 ≤ i) (i1 : i < 10) : 0 ≤ me p i ∧ me p i < 10 ∧ 0 ≤ me f i ∧ me f i < 4 := by
  have h1 := h i i0 i1
  have h2 := zpl_ok hR i0 i1
  have h3 := hR.1 _ h2.1 h2.2.1
  rw [h1.1, h1.2]
  exact ⟨h2.1, h2.2.1, h3.2.2⟩
theorem gDn.cg {me me' : zMe} {p f : Nat} {R : zRg} (h : gDn me p f R) (h1 : ∀ i, 0 ≤ i → i < 10 → me' p i = me p i) (h2 : ∀ i, 0 ≤ i → i < 10 → me' f i = me f i) : gDn me' p f R := fun i i0 i1 => by rw [h1 i i0 i1, h2 i i0 i1]; exact h i i0 i1
theorem gDn.fr {me me' : zMe} {p f : Nat} {R : zRg} (h : gDn me p f R) (h1 : me' p = me p) (h2 : me' f = me f) : gDn me' p f R := h.cg (fun i _ _ => by rw [h1]) (fun i _ _ => by rw [h2])
theorem zac_pl {R : zRg} (hR : zgR R.1 R.2) {c i : Int} (hc : zvs c) (i0 : 0 ≤ i) (i1 : i < 10) : zpl (zac R c).1 i = zto c (zpl R.1 i) ∧ (zac R c).2 (zto c (zpl R.1 i)) = (R.2 (zpl R.1 i) + ztn c (zpl R.1 i)) % 4 := by
  have h1 := zpl_ok hR i0 i1
  have h2 := zac_at (R := R) hc h1.1 h1.2.1
  have h3 := zto_all hc h1.1 h1.2.1
  exact ⟨zpl_of (zgR_ac hR hc) h3.1 h3.2.1 (h2.1.trans h1.2.2), h2.2⟩
theorem gto_all {c P : Int} (hc : zvs c) (hc4 : c < 400) (p0 : 0 ≤ P) (p1 : P < 10) : (c < 100 → ((P = c / 10 % 10 → zto c P = c % 10) ∧ (P ≠ c / 10 % 10 → P = c % 10 → zto c P = c / 10 % 10) ∧ (P ≠ c / 10 % 10 → P ≠ c % 10 → zto c P = P) ∧ ztn c P = 0)) ∧ (100 ≤ c → c < 200 → zto c P = P ∧ (P = c / 10 % 10 → ztn c P = c % 10) ∧ (P ≠ c / 10 % 10 → ztn c P = 0)) ∧ (200 ≤ c → c < 300 → zto c P = (P + c / 10 % 10) % 10 ∧ ztn c P = 0) ∧ (300 ≤ c → ((c / 10 % 10 ≤ P → P ≤ c % 10 → zto c P = c / 10 % 10 + c % 10 - P ∧ ztn c P = 2) ∧ (¬ (c / 10 % 10 ≤ P ∧ P ≤ c % 10) → zto c P = P ∧ ztn c P = 0))) := by
  unfold zvs at hc
  unfold zto ztn zTo zTn
  rw [show zdig c 0 = c / 100 from rfl, show zdig c 1 = c / 10 % 10 from rfl, show zdig c 2 = c % 10 from rfl]
  refine ⟨fun h => ⟨fun h1 => ?_, fun h1 h2 => ?_, fun h1 h2 => ?_, ?_⟩, fun h h' => ⟨?_, fun h1 => ?_, fun h1 => ?_⟩, fun h h' => ⟨?_, ?_⟩, fun h => ⟨fun h1 h2 => ⟨?_, ?_⟩, fun h1 => ⟨?_, ?_⟩⟩⟩ <;> (repeat' split) <;> omega
theorem zxor_2 {F : Int} (h0 : 0 ≤ F) (h1 : F < 4) : zxor F 2 = (F + 2) % 4 := by
  have h : F = 0 ∨ F = 1 ∨ F = 2 ∨ F = 3 := by omega
  rcases h with rfl | rfl | rfl | rfl <;> decide
set_option maxRecDepth 100000 in
set_option maxHeartbeats 4000000 in
theorem l_make {d : Nat} {sp : zSP} {me : zMe} {Q : zQ} {p f : Nat} {R : zRg} {c : Int} (hp : sp.1 p = (1, 10)) (hf : sp.1 f = (1, 10)) (hpf : p ≠ f) (hR : zgR R.1 R.2) (hc : zvs c) (hc4 : c < 400) (hN : gDn me p f R) (hQ : ∀ me', gDn me' p f (zac R c) → (∀ a, a ≠ p → a ≠ f → me' a = me a) → Q none sp me') : zCall mL_make d 0 0 [zR p, zR f, zI c] sp me Q := by
  refine z_met kL_make (by simp) (by simp) ?_
  show zW mL_make d 0 0 Q 0 [zR p, zR f, zI c, zU, zU, zU] [] sp me
  have hcv := hc
  unfold zvs at hcv
  refine z_L2I (pc' := 1) dL_make_0 rfl ?_
  refine z_bipush (pc' := 3) dL_make_1 rfl (by decide) ?_
  refine z_idiv (pc' := 4) dL_make_3 rfl (by omega) (by omega) ?_
  refine z_bipush (pc' := 6) dL_make_4 rfl (by decide) ?_
  refine z_irem (pc' := 7) dL_make_6 rfl (by omega) (by omega) ?_
  refine z_S3I (pc' := 8) rfl dL_make_7 rfl ?_
  refine z_L2I (pc' := 9) dL_make_8 rfl ?_
  refine z_bipush (pc' := 11) dL_make_9 rfl (by decide) ?_
  refine z_irem (pc' := 12) dL_make_11 rfl (by omega) (by omega) ?_
  refine z_S4I (pc' := 14) rfl dL_make_12 rfl ?_
  refine z_iconst (pc' := 15) dL_make_14 rfl (by unfold zin; decide) ?_
  refine z_S5I (pc' := 17) rfl dL_make_15 rfl ?_
  suffices H : ∀ (n : Nat) (i : Int) (me' : zMe), 0 ≤ i → i ≤ 10 → 10 - i < n → (∀ j, 0 ≤ j → j < i → me' p j = zpl (zac R c).1 j ∧ me' f j = (zac R c).2 (zpl (zac R c).1 j)) → (∀ j, i ≤ j → j < 10 → me' p j = zpl R.1 j ∧ me' f j = R.2 (zpl R.1 j)) → (∀ a, a ≠ p → a ≠ f → me' a = me a) → zW mL_make d 0 0 Q 17 [zR p, zR f, zI c, zI (c / 10 % 10), zI (c % 10), zI i] [] sp me' by
    exact H 11 0 me (by omega) (by omega) (by omega) (fun j j0 j1 => by omega) (fun j j0 j1 => hN j j0 j1) (fun _ _ _ => rfl)
  intro n
  induction n with
  | zero => intro i me' h0 h1 h2; omega
  | succ n ih =>
  intro i me' hi0 hi1 hi2 hN1 hN2 hF
  refine z_L5I (pc' := 19) dL_make_17 rfl ?_
  refine z_bipush (pc' := 21) dL_make_19 rfl (by decide) ?_
  refine z_icmp_ge (tgt := 174) (pc' := 24) dL_make_21 (by decide) rfl (fun h21 => ?_) (fun h21 => ?_)
  · refine z_return rfl rfl dL_make_174 ?_
    obtain rfl : i = 10 := by omega
    exact hQ me' hN1 hF
  · have hii := hN2 i (Int.le_refl _) (by omega)
    have hp1 := zpl_ok hR hi0 (show i < 10 by omega)
    have hr := hR.1 _ hp1.1 hp1.2.1
    have hac := zac_pl hR hc hi0 (show i < 10 by omega)
    have hto := zto_all hc hp1.1 hp1.2.1
    have hT := gto_all hc hc4 hp1.1 hp1.2.1
    have hx2 := zxor_2 hr.2.2.1 hr.2.2.2
    rw [← hii.1] at hT hto hp1
    rw [← hii.2] at hx2 hr
    have key : ∀ m2 : zMe, m2 p i = zto c (me' p i) → m2 f i = (me' f i + ztn c (me' p i)) % 4 → (∀ j, j ≠ i → m2 p j = me' p j ∧ m2 f j = me' f j) → (∀ a, a ≠ p → a ≠ f → m2 a = me' a) → zW mL_make d 0 0 Q 17 [zR p, zR f, zI c, zI (c / 10 % 10), zI (c % 10), zI (i + 1)] [] sp m2 := fun m2 k1 k2 k3 k4 => by
      refine ih (i + 1) m2 (by omega) (by omega) (by omega) (fun j j0 j1 => ?_) (fun j j0 j1 => ?_) (fun a h1 h2 => by rw [k4 a h1 h2]; exact hF a h1 h2)
      · by_cases e : j = i
        · subst e
          rw [k1, k2, hii.1, hii.2, hac.1, hac.2]
          exact ⟨rfl, rfl⟩
        · rw [(k3 j e).1, (k3 j e).2]
          exact hN1 j j0 (by omega)
      · rw [(k3 j (by omega)).1, (k3 j (by omega)).2]
        exact hN2 j (by omega) j1
    have hfp : f ≠ p := Ne.symm hpf
    refine z_L2I (pc' := 25) dL_make_24 rfl ?_
    refine z_bipush (pc' := 27) dL_make_25 rfl (by decide) ?_
    refine z_icmp_ge (tgt := 67) (pc' := 30) dL_make_27 (by decide) rfl (fun h27 => ?_) (fun h27 => ?_)
    · refine z_L2I (pc' := 68) dL_make_67 rfl ?_
      refine z_sipush (pc' := 71) dL_make_68 rfl (by decide) ?_
      refine z_icmp_ge (tgt := 105) (pc' := 74) dL_make_71 (by decide) rfl (fun h71 => ?_) (fun h71 => ?_)
      · refine z_L2I (pc' := 106) dL_make_105 rfl ?_
        refine z_sipush (pc' := 109) dL_make_106 rfl (by decide) ?_
        refine z_icmp_ge (tgt := 128) (pc' := 112) dL_make_109 (by decide) rfl (fun h109 => ?_) (fun h109 => ?_)
        · refine z_L0R (pc' := 129) dL_make_128 rfl ?_
          refine z_L5I (pc' := 131) dL_make_129 rfl ?_
          refine z_ild (pc' := 132) dL_make_131 rfl hp (by omega) (by omega) ?_
          refine z_L3I (pc' := 133) dL_make_132 rfl ?_
          refine z_icmp_lt (tgt := 168) (pc' := 136) dL_make_133 (by decide) rfl (fun h133 => ?_) (fun h133 => ?_)
          · refine z_inc5 (pc' := 171) rfl dL_make_168 rfl (by unfold zin; omega) ?_
            refine z_goto (tgt := 17) dL_make_171 (by decide) ?_
            refine key _ ?_ ?_ (fun j hj => ?_) (fun a h1 h2 => ?_)
            · first
              | (rw [zset_eq, zup_eq]; omega)
              | (rw [zset_ne _ _ _ hpf, zset_eq, zup_eq]; omega)
              | (rw [zset_ne _ _ _ hpf]; omega)
              | omega
            · first
              | (rw [zset_eq, zup_eq, zset_ne _ _ _ hfp, hx2]; omega)
              | (rw [zset_eq, zup_eq]; omega)
              | (rw [zset_ne _ _ _ hfp]; omega)
              | omega
            · first
              | (rw [zset_ne _ _ _ hpf, zset_eq, zset_eq, zset_ne _ _ _ hfp, zup_ne _ _ _ hj, zup_ne _ _ _ hj]; exact ⟨rfl, rfl⟩)
              | (rw [zset_eq, zset_ne _ _ _ hfp, zup_ne _ _ _ hj]; exact ⟨rfl, rfl⟩)
              | (rw [zset_ne _ _ _ hpf, zset_eq, zup_ne _ _ _ hj]; exact ⟨rfl, rfl⟩)
              | exact ⟨rfl, rfl⟩
            · first
              | (rw [zset_ne _ _ _ h2, zset_ne _ _ _ h1])
              | (rw [zset_ne _ _ _ h1])
              | (rw [zset_ne _ _ _ h2])
              | rfl
          · refine z_L0R (pc' := 137) dL_make_136 rfl ?_
            refine z_L5I (pc' := 139) dL_make_137 rfl ?_
            refine z_ild (pc' := 140) dL_make_139 rfl hp (by omega) (by omega) ?_
            refine z_L4I (pc' := 142) dL_make_140 rfl ?_
            refine z_icmp_gt (tgt := 168) (pc' := 145) dL_make_142 (by decide) rfl (fun h142 => ?_) (fun h142 => ?_)
            · refine z_inc5 (pc' := 171) rfl dL_make_168 rfl (by unfold zin; omega) ?_
              refine z_goto (tgt := 17) dL_make_171 (by decide) ?_
              refine key _ ?_ ?_ (fun j hj => ?_) (fun a h1 h2 => ?_)
              · first
                | (rw [zset_eq, zup_eq]; omega)
                | (rw [zset_ne _ _ _ hpf, zset_eq, zup_eq]; omega)
                | (rw [zset_ne _ _ _ hpf]; omega)
                | omega
              · first
                | (rw [zset_eq, zup_eq, zset_ne _ _ _ hfp, hx2]; omega)
                | (rw [zset_eq, zup_eq]; omega)
                | (rw [zset_ne _ _ _ hfp]; omega)
                | omega
              · first
                | (rw [zset_ne _ _ _ hpf, zset_eq, zset_eq, zset_ne _ _ _ hfp, zup_ne _ _ _ hj, zup_ne _ _ _ hj]; exact ⟨rfl, rfl⟩)
                | (rw [zset_eq, zset_ne _ _ _ hfp, zup_ne _ _ _ hj]; exact ⟨rfl, rfl⟩)
                | (rw [zset_ne _ _ _ hpf, zset_eq, zup_ne _ _ _ hj]; exact ⟨rfl, rfl⟩)
                | exact ⟨rfl, rfl⟩
              · first
                | (rw [zset_ne _ _ _ h2, zset_ne _ _ _ h1])
                | (rw [zset_ne _ _ _ h1])
                | (rw [zset_ne _ _ _ h2])
                | rfl
            · refine z_L0R (pc' := 146) dL_make_145 rfl ?_
              refine z_L5I (pc' := 148) dL_make_146 rfl ?_
              refine z_L3I (pc' := 149) dL_make_148 rfl ?_
              refine z_L4I (pc' := 151) dL_make_149 rfl ?_
              refine z_iadd (pc' := 152) dL_make_151 rfl (by unfold zin; omega) ?_
              refine z_L0R (pc' := 153) dL_make_152 rfl ?_
              refine z_L5I (pc' := 155) dL_make_153 rfl ?_
              refine z_ild (pc' := 156) dL_make_155 rfl hp (by omega) (by omega) ?_
              refine z_isub (pc' := 157) dL_make_156 rfl (by unfold zin; omega) ?_
              refine z_ist (pc' := 158) dL_make_157 rfl hp (by omega) (by omega) ?_
              refine z_L1R (pc' := 159) dL_make_158 rfl ?_
              refine z_L5I (pc' := 161) dL_make_159 rfl ?_
              refine z_L1R (pc' := 162) dL_make_161 rfl ?_
              refine z_L5I (pc' := 164) dL_make_162 rfl ?_
              refine z_ild (pc' := 165) dL_make_164 rfl hf (by omega) (by omega) ?_
              refine z_iconst (pc' := 166) dL_make_165 rfl (by unfold zin; decide) ?_
              refine z_ixor (pc' := 167) dL_make_166 rfl ?_
              refine z_ist (pc' := 168) dL_make_167 rfl hf (by omega) (by omega) ?_
              refine z_inc5 (pc' := 171) rfl dL_make_168 rfl (by unfold zin; omega) ?_
              refine z_goto (tgt := 17) dL_make_171 (by decide) ?_
              refine key _ ?_ ?_ (fun j hj => ?_) (fun a h1 h2 => ?_)
              · first
                | (rw [zset_eq, zup_eq]; omega)
                | (rw [zset_ne _ _ _ hpf, zset_eq, zup_eq]; omega)
                | (rw [zset_ne _ _ _ hpf]; omega)
                | omega
              · first
                | (rw [zset_eq, zup_eq, zset_ne _ _ _ hfp, hx2]; omega)
                | (rw [zset_eq, zup_eq]; omega)
                | (rw [zset_ne _ _ _ hfp]; omega)
                | omega
              · first
                | (rw [zset_ne _ _ _ hpf, zset_eq, zset_eq, zset_ne _ _ _ hfp, zup_ne _ _ _ hj, zup_ne _ _ _ hj]; exact ⟨rfl, rfl⟩)
                | (rw [zset_eq, zset_ne _ _ _ hfp, zup_ne _ _ _ hj]; exact ⟨rfl, rfl⟩)
                | (rw [zset_ne _ _ _ hpf, zset_eq, zup_ne _ _ _ hj]; exact ⟨rfl, rfl⟩)
                | exact ⟨rfl, rfl⟩
              · first
                | (rw [zset_ne _ _ _ h2, zset_ne _ _ _ h1])
                | (rw [zset_ne _ _ _ h1])
                | (rw [zset_ne _ _ _ h2])
                | rfl
        · refine z_L0R (pc' := 113) dL_make_112 rfl ?_
          refine z_L5I (pc' := 115) dL_make_113 rfl ?_
          refine z_L0R (pc' := 116) dL_make_115 rfl ?_
          refine z_L5I (pc' := 118) dL_make_116 rfl ?_
          refine z_ild (pc' := 119) dL_make_118 rfl hp (by omega) (by omega) ?_
          refine z_L3I (pc' := 120) dL_make_119 rfl ?_
          refine z_iadd (pc' := 121) dL_make_120 rfl (by unfold zin; omega) ?_
          refine z_bipush (pc' := 123) dL_make_121 rfl (by decide) ?_
          refine z_irem (pc' := 124) dL_make_123 rfl (by omega) (by omega) ?_
          refine z_ist (pc' := 125) dL_make_124 rfl hp (by omega) (by omega) ?_
          refine z_goto (tgt := 168) dL_make_125 (by decide) ?_
          refine z_inc5 (pc' := 171) rfl dL_make_168 rfl (by unfold zin; omega) ?_
          refine z_goto (tgt := 17) dL_make_171 (by decide) ?_
          refine key _ ?_ ?_ (fun j hj => ?_) (fun a h1 h2 => ?_)
          · first
            | (rw [zset_eq, zup_eq]; omega)
            | (rw [zset_ne _ _ _ hpf, zset_eq, zup_eq]; omega)
            | (rw [zset_ne _ _ _ hpf]; omega)
            | omega
          · first
            | (rw [zset_eq, zup_eq, zset_ne _ _ _ hfp, hx2]; omega)
            | (rw [zset_eq, zup_eq]; omega)
            | (rw [zset_ne _ _ _ hfp]; omega)
            | omega
          · first
            | (rw [zset_ne _ _ _ hpf, zset_eq, zset_eq, zset_ne _ _ _ hfp, zup_ne _ _ _ hj, zup_ne _ _ _ hj]; exact ⟨rfl, rfl⟩)
            | (rw [zset_eq, zset_ne _ _ _ hfp, zup_ne _ _ _ hj]; exact ⟨rfl, rfl⟩)
            | (rw [zset_ne _ _ _ hpf, zset_eq, zup_ne _ _ _ hj]; exact ⟨rfl, rfl⟩)
            | exact ⟨rfl, rfl⟩
          · first
            | (rw [zset_ne _ _ _ h2, zset_ne _ _ _ h1])
            | (rw [zset_ne _ _ _ h1])
            | (rw [zset_ne _ _ _ h2])
            | rfl
      · refine z_L1R (pc' := 75) dL_make_74 rfl ?_
        refine z_L5I (pc' := 77) dL_make_75 rfl ?_
        refine z_L0R (pc' := 78) dL_make_77 rfl ?_
        refine z_L5I (pc' := 80) dL_make_78 rfl ?_
        refine z_ild (pc' := 81) dL_make_80 rfl hp (by omega) (by omega) ?_
        refine z_L3I (pc' := 82) dL_make_81 rfl ?_
        refine z_icmp_ne (tgt := 97) (pc' := 85) dL_make_82 (by decide) rfl (fun h82 => ?_) (fun h82 => ?_)
        · refine z_L1R (pc' := 98) dL_make_97 rfl ?_
          refine z_L5I (pc' := 100) dL_make_98 rfl ?_
          refine z_ild (pc' := 101) dL_make_100 rfl hf (by omega) (by omega) ?_
          refine z_ist (pc' := 102) dL_make_101 rfl hf (by omega) (by omega) ?_
          refine z_goto (tgt := 168) dL_make_102 (by decide) ?_
          refine z_inc5 (pc' := 171) rfl dL_make_168 rfl (by unfold zin; omega) ?_
          refine z_goto (tgt := 17) dL_make_171 (by decide) ?_
          refine key _ ?_ ?_ (fun j hj => ?_) (fun a h1 h2 => ?_)
          · first
            | (rw [zset_eq, zup_eq]; omega)
            | (rw [zset_ne _ _ _ hpf, zset_eq, zup_eq]; omega)
            | (rw [zset_ne _ _ _ hpf]; omega)
            | omega
          · first
            | (rw [zset_eq, zup_eq, zset_ne _ _ _ hfp, hx2]; omega)
            | (rw [zset_eq, zup_eq]; omega)
            | (rw [zset_ne _ _ _ hfp]; omega)
            | omega
          · first
            | (rw [zset_ne _ _ _ hpf, zset_eq, zset_eq, zset_ne _ _ _ hfp, zup_ne _ _ _ hj, zup_ne _ _ _ hj]; exact ⟨rfl, rfl⟩)
            | (rw [zset_eq, zset_ne _ _ _ hfp, zup_ne _ _ _ hj]; exact ⟨rfl, rfl⟩)
            | (rw [zset_ne _ _ _ hpf, zset_eq, zup_ne _ _ _ hj]; exact ⟨rfl, rfl⟩)
            | exact ⟨rfl, rfl⟩
          · first
            | (rw [zset_ne _ _ _ h2, zset_ne _ _ _ h1])
            | (rw [zset_ne _ _ _ h1])
            | (rw [zset_ne _ _ _ h2])
            | rfl
        · refine z_L1R (pc' := 86) dL_make_85 rfl ?_
          refine z_L5I (pc' := 88) dL_make_86 rfl ?_
          refine z_ild (pc' := 89) dL_make_88 rfl hf (by omega) (by omega) ?_
          refine z_L4I (pc' := 91) dL_make_89 rfl ?_
          refine z_iadd (pc' := 92) dL_make_91 rfl (by unfold zin; omega) ?_
          refine z_iconst (pc' := 93) dL_make_92 rfl (by unfold zin; decide) ?_
          refine z_irem (pc' := 94) dL_make_93 rfl (by omega) (by omega) ?_
          refine z_goto (tgt := 101) dL_make_94 (by decide) ?_
          refine z_ist (pc' := 102) dL_make_101 rfl hf (by omega) (by omega) ?_
          refine z_goto (tgt := 168) dL_make_102 (by decide) ?_
          refine z_inc5 (pc' := 171) rfl dL_make_168 rfl (by unfold zin; omega) ?_
          refine z_goto (tgt := 17) dL_make_171 (by decide) ?_
          refine key _ ?_ ?_ (fun j hj => ?_) (fun a h1 h2 => ?_)
          · first
            | (rw [zset_eq, zup_eq]; omega)
            | (rw [zset_ne _ _ _ hpf, zset_eq, zup_eq]; omega)
            | (rw [zset_ne _ _ _ hpf]; omega)
            | omega
          · first
            | (rw [zset_eq, zup_eq, zset_ne _ _ _ hfp, hx2]; omega)
            | (rw [zset_eq, zup_eq]; omega)
            | (rw [zset_ne _ _ _ hfp]; omega)
            | omega
          · first
            | (rw [zset_ne _ _ _ hpf, zset_eq, zset_eq, zset_ne _ _ _ hfp, zup_ne _ _ _ hj, zup_ne _ _ _ hj]; exact ⟨rfl, rfl⟩)
            | (rw [zset_eq, zset_ne _ _ _ hfp, zup_ne _ _ _ hj]; exact ⟨rfl, rfl⟩)
            | (rw [zset_ne _ _ _ hpf, zset_eq, zup_ne _ _ _ hj]; exact ⟨rfl, rfl⟩)
            | exact ⟨rfl, rfl⟩
          · first
            | (rw [zset_ne _ _ _ h2, zset_ne _ _ _ h1])
            | (rw [zset_ne _ _ _ h1])
            | (rw [zset_ne _ _ _ h2])
            | rfl
    · refine z_L0R (pc' := 31) dL_make_30 rfl ?_
      refine z_L5I (pc' := 33) dL_make_31 rfl ?_
      refine z_L0R (pc' := 34) dL_make_33 rfl ?_
      refine z_L5I (pc' := 36) dL_make_34 rfl ?_
      refine z_ild (pc' := 37) dL_make_36 rfl hp (by omega) (by omega) ?_
      refine z_L3I (pc' := 38) dL_make_37 rfl ?_
      refine z_icmp_ne (tgt := 46) (pc' := 41) dL_make_38 (by decide) rfl (fun h38 => ?_) (fun h38 => ?_)
      · refine z_L0R (pc' := 47) dL_make_46 rfl ?_
        refine z_L5I (pc' := 49) dL_make_47 rfl ?_
        refine z_ild (pc' := 50) dL_make_49 rfl hp (by omega) (by omega) ?_
        refine z_L4I (pc' := 52) dL_make_50 rfl ?_
        refine z_icmp_ne (tgt := 59) (pc' := 55) dL_make_52 (by decide) rfl (fun h52 => ?_) (fun h52 => ?_)
        · refine z_L0R (pc' := 60) dL_make_59 rfl ?_
          refine z_L5I (pc' := 62) dL_make_60 rfl ?_
          refine z_ild (pc' := 63) dL_make_62 rfl hp (by omega) (by omega) ?_
          refine z_ist (pc' := 64) dL_make_63 rfl hp (by omega) (by omega) ?_
          refine z_goto (tgt := 168) dL_make_64 (by decide) ?_
          refine z_inc5 (pc' := 171) rfl dL_make_168 rfl (by unfold zin; omega) ?_
          refine z_goto (tgt := 17) dL_make_171 (by decide) ?_
          refine key _ ?_ ?_ (fun j hj => ?_) (fun a h1 h2 => ?_)
          · first
            | (rw [zset_eq, zup_eq]; omega)
            | (rw [zset_ne _ _ _ hpf, zset_eq, zup_eq]; omega)
            | (rw [zset_ne _ _ _ hpf]; omega)
            | omega
          · first
            | (rw [zset_eq, zup_eq, zset_ne _ _ _ hfp, hx2]; omega)
            | (rw [zset_eq, zup_eq]; omega)
            | (rw [zset_ne _ _ _ hfp]; omega)
            | omega
          · first
            | (rw [zset_ne _ _ _ hpf, zset_eq, zset_eq, zset_ne _ _ _ hfp, zup_ne _ _ _ hj, zup_ne _ _ _ hj]; exact ⟨rfl, rfl⟩)
            | (rw [zset_eq, zset_ne _ _ _ hfp, zup_ne _ _ _ hj]; exact ⟨rfl, rfl⟩)
            | (rw [zset_ne _ _ _ hpf, zset_eq, zup_ne _ _ _ hj]; exact ⟨rfl, rfl⟩)
            | exact ⟨rfl, rfl⟩
          · first
            | (rw [zset_ne _ _ _ h2, zset_ne _ _ _ h1])
            | (rw [zset_ne _ _ _ h1])
            | (rw [zset_ne _ _ _ h2])
            | rfl
        · refine z_L3I (pc' := 56) dL_make_55 rfl ?_
          refine z_goto (tgt := 63) dL_make_56 (by decide) ?_
          refine z_ist (pc' := 64) dL_make_63 rfl hp (by omega) (by omega) ?_
          refine z_goto (tgt := 168) dL_make_64 (by decide) ?_
          refine z_inc5 (pc' := 171) rfl dL_make_168 rfl (by unfold zin; omega) ?_
          refine z_goto (tgt := 17) dL_make_171 (by decide) ?_
          refine key _ ?_ ?_ (fun j hj => ?_) (fun a h1 h2 => ?_)
          · first
            | (rw [zset_eq, zup_eq]; omega)
            | (rw [zset_ne _ _ _ hpf, zset_eq, zup_eq]; omega)
            | (rw [zset_ne _ _ _ hpf]; omega)
            | omega
          · first
            | (rw [zset_eq, zup_eq, zset_ne _ _ _ hfp, hx2]; omega)
            | (rw [zset_eq, zup_eq]; omega)
            | (rw [zset_ne _ _ _ hfp]; omega)
            | omega
          · first
            | (rw [zset_ne _ _ _ hpf, zset_eq, zset_eq, zset_ne _ _ _ hfp, zup_ne _ _ _ hj, zup_ne _ _ _ hj]; exact ⟨rfl, rfl⟩)
            | (rw [zset_eq, zset_ne _ _ _ hfp, zup_ne _ _ _ hj]; exact ⟨rfl, rfl⟩)
            | (rw [zset_ne _ _ _ hpf, zset_eq, zup_ne _ _ _ hj]; exact ⟨rfl, rfl⟩)
            | exact ⟨rfl, rfl⟩
          · first
            | (rw [zset_ne _ _ _ h2, zset_ne _ _ _ h1])
            | (rw [zset_ne _ _ _ h1])
            | (rw [zset_ne _ _ _ h2])
            | rfl
      · refine z_L4I (pc' := 43) dL_make_41 rfl ?_
        refine z_goto (tgt := 63) dL_make_43 (by decide) ?_
        refine z_ist (pc' := 64) dL_make_63 rfl hp (by omega) (by omega) ?_
        refine z_goto (tgt := 168) dL_make_64 (by decide) ?_
        refine z_inc5 (pc' := 171) rfl dL_make_168 rfl (by unfold zin; omega) ?_
        refine z_goto (tgt := 17) dL_make_171 (by decide) ?_
        refine key _ ?_ ?_ (fun j hj => ?_) (fun a h1 h2 => ?_)
        · first
          | (rw [zset_eq, zup_eq]; omega)
          | (rw [zset_ne _ _ _ hpf, zset_eq, zup_eq]; omega)
          | (rw [zset_ne _ _ _ hpf]; omega)
          | omega
        · first
          | (rw [zset_eq, zup_eq, zset_ne _ _ _ hfp, hx2]; omega)
          | (rw [zset_eq, zup_eq]; omega)
          | (rw [zset_ne _ _ _ hfp]; omega)
          | omega
        · first
          | (rw [zset_ne _ _ _ hpf, zset_eq, zset_eq, zset_ne _ _ _ hfp, zup_ne _ _ _ hj, zup_ne _ _ _ hj]; exact ⟨rfl, rfl⟩)
          | (rw [zset_eq, zset_ne _ _ _ hfp, zup_ne _ _ _ hj]; exact ⟨rfl, rfl⟩)
          | (rw [zset_ne _ _ _ hpf, zset_eq, zup_ne _ _ _ hj]; exact ⟨rfl, rfl⟩)
          | exact ⟨rfl, rfl⟩
        · first
          | (rw [zset_ne _ _ _ h2, zset_ne _ _ _ h1])
          | (rw [zset_ne _ _ _ h1])
          | (rw [zset_ne _ _ _ h2])
          | rfl
theorem gkall {R : zRg} {h : Int → Int} (hR : zgR R.1 R.2) (hok : zHok h) : zkall R.1 h ↔ ∀ j, 0 ≤ j → j < 10 → h j < 0 ∨ znb (zpl R.1 j) (zpl R.1 (h j)) := by
  have key : ∀ p, 0 ≤ p → p < 10 → (zkept R.1 h p ↔ (h (R.1 p) < 0 ∨ znb p (zpl R.1 (h (R.1 p))))) := fun p p0 p1 => by
    have hj := hR.1 p p0 p1
    have hh := hok.1 (R.1 p) hj.1 hj.2.1
    unfold zkept
    by_cases e : h (R.1 p) = -5
    · constructor
      · intro _; left; omega
      · intro _; left; exact e
    · have hv : 0 ≤ h (R.1 p) ∧ h (R.1 p) < 10 := by omega
      have hq := zpl_ok hR hv.1 hv.2
      have e1 : h (R.1 p) = R.1 ((p + 1) % 10) ↔ zpl R.1 (h (R.1 p)) = (p + 1) % 10 := by
        constructor
        · intro z; exact zpl_of hR (by omega) (by omega) z.symm
        · intro z; rw [← z]; exact hq.2.2.symm
      have e2 : h (R.1 p) = R.1 ((p + 10 - 1) % 10) ↔ zpl R.1 (h (R.1 p)) = (p + 10 - 1) % 10 := by
        constructor
        · intro z; exact zpl_of hR (by omega) (by omega) z.symm
        · intro z; rw [← z]; exact hq.2.2.symm
      rw [e1, e2]
      unfold znb
      omega
  constructor
  · intro hk j j0 j1
    have hp := zpl_ok hR j0 j1
    have h1 := (key _ hp.1 hp.2.1).1 (hk _ hp.1 hp.2.1)
    rw [hp.2.2] at h1
    exact h1
  · intro hk p p0 p1
    refine (key p p0 p1).2 ?_
    have hj := hR.1 p p0 p1
    have h1 := hk (R.1 p) hj.1 hj.2.1
    rw [zpl_of hR p0 p1 rfl] at h1
    exact h1
set_option maxRecDepth 100000 in
set_option maxHeartbeats 1000000 in
theorem l_holdsR {d : Nat} {sp : zSP} {me : zMe} {Q : zQ} {p h : Nat} {R : zRg} {H : Int → Int} (hd : 1 ≤ d) (hp : sp.1 p = (1, 10)) (hh : sp.1 h = (1, 10)) (hR : zgR R.1 R.2) (hok : zHok H) (hN : ∀ i, 0 ≤ i → i < 10 → me p i = zpl R.1 i) (hH : ∀ i, 0 ≤ i → i < 10 → me h i = H i) (hQ1 : zkall R.1 H → Q (some (zI 1)) sp me) (hQ0 : ¬ zkall R.1 H → Q (some (zI 0)) sp me) : zCall mL_holds d 0 0 [zR p, zR h] sp me Q := by
  refine z_met kL_holds (by simp) (by simp) ?_
  show zW mL_holds d 0 0 Q 0 [zR p, zR h, zU, zU] [] sp me
  rw [gkall hR hok] at hQ1 hQ0
  refine z_iconst (pc' := 1) dL_holds_0 rfl (by unfold zin; decide) ?_
  refine z_S2I (pc' := 2) rfl dL_holds_1 rfl ?_
  refine z_iconst (pc' := 3) dL_holds_2 rfl (by unfold zin; decide) ?_
  refine z_S3I (pc' := 4) rfl dL_holds_3 rfl ?_
  suffices H9 : ∀ (n : Nat) (i v : Int), 0 ≤ i → i ≤ 10 → 10 - i < n → ((v = 1 ∧ ∀ j, 0 ≤ j → j < i → H j < 0 ∨ znb (zpl R.1 j) (zpl R.1 (H j))) ∨ (v = 0 ∧ ¬ ∀ j, 0 ≤ j → j < 10 → H j < 0 ∨ znb (zpl R.1 j) (zpl R.1 (H j)))) → zW mL_holds d 0 0 Q 4 [zR p, zR h, zI v, zI i] [] sp me by
    exact H9 11 0 1 (by omega) (by omega) (by omega) (Or.inl ⟨rfl, fun j j0 j1 => by omega⟩)
  intro n
  induction n with
  | zero => intro i v h0 h1 h2; omega
  | succ n ih =>
  intro i v hi0 hi1 hi2 hv
  refine z_L3I (pc' := 5) dL_holds_4 rfl ?_
  refine z_bipush (pc' := 7) dL_holds_5 rfl (by decide) ?_
  refine z_icmp_ge (tgt := 46) (pc' := 10) dL_holds_7 (by decide) rfl (fun h7 => ?_) (fun h7 => ?_)
  · refine z_L2I (pc' := 47) dL_holds_46 rfl ?_
    refine z_zreturn rfl rfl dL_holds_47 (by omega) ?_
    obtain rfl : i = 10 := by omega
    rcases hv with ⟨h1, h2⟩ | ⟨h1, h2⟩
    · subst h1; exact hQ1 h2
    · subst h1; exact hQ0 h2
  · have hHi := hH i hi0 (by omega)
    have hoki := hok.1 i hi0 (by omega)
    have hpi := hN i hi0 (by omega)
    have hpo := zpl_ok hR hi0 (show i < 10 by omega)
    refine z_L2I (pc' := 11) dL_holds_10 rfl ?_
    refine z_if_eq (tgt := 38) (pc' := 14) dL_holds_11 (by decide) rfl (fun h11 => ?_) (fun h11 => ?_)
    · refine z_iconst (pc' := 39) dL_holds_38 rfl (by unfold zin; decide) ?_
      refine z_S2I (pc' := 40) rfl dL_holds_39 rfl ?_
      refine z_inc3 (pc' := 43) rfl dL_holds_40 rfl (by unfold zin; omega) ?_
      refine z_goto (tgt := 4) dL_holds_43 (by decide) ?_
      rcases hv with ⟨h1, h2⟩ | ⟨h1, h2⟩
      · first
        | exact absurd h1 (by omega)
        | exact ih (i + 1) 1 (by omega) (by omega) (by omega) (Or.inl ⟨rfl, zall_up h2 (Or.inl (by omega))⟩)
      · first
        | exact absurd h1 (by omega)
        | exact ih (i + 1) 0 (by omega) (by omega) (by omega) (Or.inr ⟨rfl, h2⟩)
    · refine z_L1R (pc' := 15) dL_holds_14 rfl ?_
      refine z_L3I (pc' := 16) dL_holds_15 rfl ?_
      refine z_ild (pc' := 17) dL_holds_16 rfl hh (by omega) (by omega) ?_
      refine z_if_lt (tgt := 34) (pc' := 20) dL_holds_17 (by decide) rfl (fun h17 => ?_) (fun h17 => ?_)
      · refine z_iconst (pc' := 35) dL_holds_34 rfl (by unfold zin; decide) ?_
        refine z_goto (tgt := 39) dL_holds_35 (by decide) ?_
        refine z_S2I (pc' := 40) rfl dL_holds_39 rfl ?_
        refine z_inc3 (pc' := 43) rfl dL_holds_40 rfl (by unfold zin; omega) ?_
        refine z_goto (tgt := 4) dL_holds_43 (by decide) ?_
        rcases hv with ⟨h1, h2⟩ | ⟨h1, h2⟩
        · first
          | exact absurd h1 (by omega)
          | exact ih (i + 1) 1 (by omega) (by omega) (by omega) (Or.inl ⟨rfl, zall_up h2 (Or.inl (by omega))⟩)
        · first
          | exact absurd h1 (by omega)
          | exact ih (i + 1) 0 (by omega) (by omega) (by omega) (Or.inr ⟨rfl, h2⟩)
      · refine z_L0R (pc' := 21) dL_holds_20 rfl ?_
        refine z_L3I (pc' := 22) dL_holds_21 rfl ?_
        refine z_ild (pc' := 23) dL_holds_22 rfl hp (by omega) (by omega) ?_
        refine z_L0R (pc' := 24) dL_holds_23 rfl ?_
        refine z_L1R (pc' := 25) dL_holds_24 rfl ?_
        refine z_L3I (pc' := 26) dL_holds_25 rfl ?_
        refine z_ild (pc' := 27) dL_holds_26 rfl hh (by omega) (by omega) ?_
        have hpj := hN (me h i) (by omega) (by omega)
        have hpk := zpl_ok hR (show 0 ≤ me h i by omega) (by omega)
        refine z_ild (pc' := 28) dL_holds_27 rfl hp (by omega) (by omega) ?_
        refine z_S2v (pc' := 31) kL_near lL_15 dL_holds_28 rfl (by omega) (Nat.le_of_ble_eq_true rfl) ?_
        refine l_near (by omega) (by omega) (by omega) (by omega) (fun hn => zKv_i ?_) (fun hn => zKv_i ?_)
        · refine z_if_eq (tgt := 38) (pc' := 34) dL_holds_31 (by decide) rfl (fun z => absurd z (by decide)) (fun z => ?_)
          refine z_iconst (pc' := 35) dL_holds_34 rfl (by unfold zin; decide) ?_
          refine z_goto (tgt := 39) dL_holds_35 (by decide) ?_
          refine z_S2I (pc' := 40) rfl dL_holds_39 rfl ?_
          refine z_inc3 (pc' := 43) rfl dL_holds_40 rfl (by unfold zin; omega) ?_
          refine z_goto (tgt := 4) dL_holds_43 (by decide) ?_
          rcases hv with ⟨h1, h2⟩ | ⟨h1, h2⟩
          · refine ih (i + 1) 1 (by omega) (by omega) (by omega) (Or.inl ⟨rfl, zall_up h2 ?_⟩)
            rw [hpi, hpj, hHi] at hn
            exact Or.inr hn
          · exact absurd h1 (by omega)
        · refine z_if_eq (tgt := 38) (pc' := 34) dL_holds_31 (by decide) rfl (fun z => ?_) (fun z => absurd rfl z)
          refine z_iconst (pc' := 39) dL_holds_38 rfl (by unfold zin; decide) ?_
          refine z_S2I (pc' := 40) rfl dL_holds_39 rfl ?_
          refine z_inc3 (pc' := 43) rfl dL_holds_40 rfl (by unfold zin; omega) ?_
          refine z_goto (tgt := 4) dL_holds_43 (by decide) ?_
          refine ih (i + 1) 0 (by omega) (by omega) (by omega) (Or.inr ⟨rfl, fun z => ?_⟩)
          rw [hpi, hpj, hHi] at hn
          rcases z i hi0 (by omega) with z | z
          · omega
          · exact hn z
        skip
end ZLB

