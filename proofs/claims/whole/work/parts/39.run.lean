set_option maxRecDepth 20000 in
set_option maxHeartbeats 4000000 in
theorem c48 {LS : Nat} {rm : Nat → Nat → Option Nat} {im : Nat → Nat → Int32} {P : Option Value → (Nat → Nat → Int32) → Prop} {o d r s : Nat} {x arg : Int32} {S c : Nat → Int32} (hR : isRn LS rm 10) (hS : isWS LS rm s) (hs : 13 < s) (ho : o ≤ 10) (hx : o = 6 → x = nI (tn x)) (hC : rnC im d S c r) (hf0 : im 10 4 = 0) (hl0 : im 10 3 = 0) (h1 : ∀ d' S' c' r' l', rn_step o x arg (im (s + 1)) (im (s + 2)) d S c r = some ((d', S', c', r'), l') → ∀ im', rnF im im' → rnC im' d' S' c' r' → im' 10 4 = 0 → im' 10 3 = nI l' → P none im') (h0 : rn_step o x arg (im (s + 1)) (im (s + 2)) d S c r = none → ∀ im', rnF im im' → im' 10 4 = 1 → P none im') : Gm LS rm 48 0 (en_in 48 [.ref 10, .int (nI o), .int x, .int arg, .ref s]) [] im P := by
  show Gm LS rm 48 0 [.ref (10), .int (nI o), .int (x), .int (arg), .ref (s)] [] im P
  obtain ⟨hd, hb, hst, hcl, hr, hr2⟩ := hC
  refine g_iload_n k48_0 rfl ?_
  have hoo : o = 0 ∨ o = 1 ∨ o = 2 ∨ o = 3 ∨ o = 4 ∨ o = 5 ∨ o = 6 ∨ o = 7 ∨ o = 8 ∨ o = 9 ∨ o = 10 := by omega
  rcases hoo with rfl | rfl | rfl | rfl | rfl | rfl | rfl | rfl | rfl | rfl | rfl
  · refine g_tabI (tgt := 44) k48_1 (by decide) (by decide) rfl (by decide) ?_
    refine g_aload_n k48_44 rfl ?_
    refine g_iload_n k48_45 rfl ?_
    refine g_inv1 k48_46 (hR.1) rfl (by decide) (Nat.le_of_ble_eq_true rfl) (c54 hR hd hb (fun z => ?_) (fun z => ?_))
    · refine g_goto k48_49 ?_
      exact g_retv k48_101 rfl (h0 (by simp [rn_step, z]) _ (fun b hb9 => by funext k; simp [en_u2, en_ur, show b ≠ 10 by omega, show b ≠ 11 by omega, show b ≠ 12 by omega, show b ≠ 13 by omega]) (by simp [en_u2]))
    · refine g_goto k48_49 ?_
      exact g_retv k48_101 rfl ((h1 (d + 1) (upd S d x) (c) (r) (0) (by simp [rn_step, z]) _ (fun b hb9 => by funext k; simp [en_u2, en_ur, show b ≠ 10 by omega, show b ≠ 11 by omega, show b ≠ 12 by omega, show b ≠ 13 by omega]) ⟨by simp [en_u2, en_ur], by omega, (fun i hi => by simp only [en_u2, en_ur, upd]; by_cases z : i = d; simp [z]; simp [z]; exact hst i (by omega)), (fun k hk => by simp only [en_u2, en_ur]; simp; exact hcl k hk), by simp [en_u2, en_ur, hr], by omega⟩ (by simp [en_u2, en_ur, hf0]) (by simp [en_u2, en_ur, hl0]; rfl)))
  · refine g_tabI (tgt := 52) k48_1 (by decide) (by decide) rfl (by decide) ?_
    refine g_aload_n k48_52 rfl ?_
    refine g_iload_n k48_53 rfl ?_
    refine g_inv1 k48_54 (hR.1) rfl (by decide) (Nat.le_of_ble_eq_true rfl) (c54 hR hd hb (fun z => ?_) (fun z => ?_))
    · refine g_goto k48_57 ?_
      exact g_retv k48_101 rfl (h0 (by simp [rn_step, z]) _ (fun b hb9 => by funext k; simp [en_u2, en_ur, show b ≠ 10 by omega, show b ≠ 11 by omega, show b ≠ 12 by omega, show b ≠ 13 by omega]) (by simp [en_u2]))
    · refine g_goto k48_57 ?_
      exact g_retv k48_101 rfl ((h1 (d + 1) (upd S d arg) (c) (r) (0) (by simp [rn_step, z]) _ (fun b hb9 => by funext k; simp [en_u2, en_ur, show b ≠ 10 by omega, show b ≠ 11 by omega, show b ≠ 12 by omega, show b ≠ 13 by omega]) ⟨by simp [en_u2, en_ur], by omega, (fun i hi => by simp only [en_u2, en_ur, upd]; by_cases z : i = d; simp [z]; simp [z]; exact hst i (by omega)), (fun k hk => by simp only [en_u2, en_ur]; simp; exact hcl k hk), by simp [en_u2, en_ur, hr], by omega⟩ (by simp [en_u2, en_ur, hf0]) (by simp [en_u2, en_ur, hl0]; rfl)))
  · refine g_tabI (tgt := 60) k48_1 (by decide) (by decide) rfl (by decide) ?_
    refine g_aload_n k48_60 rfl ?_
    refine g_iload_n k48_61 rfl ?_
    refine g_inv1 k48_62 (hR.1) rfl (by decide) (Nat.le_of_ble_eq_true rfl) (c49 (o := 2) hR (by decide) (by decide) hd hb (fun hn im' hf he => ?_) (fun z => ?_))
    · refine g_goto k48_65 ?_
      exact g_retv k48_101 rfl (h0 (by simp only [rn_step]; simp [hn] <;> omega) im' hf he)
    · have e1 := hst (d - 1) (by omega)
      have e2 := hst (d - 2) (by omega)
      refine g_goto k48_65 ?_
      exact g_retv k48_101 rfl ((h1 (d - 1) (upd S (d - 2) (S (d - 2) + S (d - 1))) (c) (r) (0) (by simp [rn_step, z]) _ (fun b hb9 => by funext k; simp [en_u2, en_ur, show b ≠ 10 by omega, show b ≠ 11 by omega, show b ≠ 12 by omega, show b ≠ 13 by omega]) ⟨by rw [u2_eq, show d - 2 + 1 = d - 1 by omega], by omega, (fun i hi => by simp only [en_u2, en_ur, upd]; by_cases z : i = d - 2; simp [z, e1, e2]; simp [z]; exact hst i (by omega)), (fun k hk => by simp only [en_u2, en_ur]; simp; exact hcl k hk), by simp [en_u2, en_ur, hr], by omega⟩ (by simp [en_u2, en_ur, hf0]) (by simp [en_u2, en_ur, hl0]; rfl)))
  · refine g_tabI (tgt := 60) k48_1 (by decide) (by decide) rfl (by decide) ?_
    refine g_aload_n k48_60 rfl ?_
    refine g_iload_n k48_61 rfl ?_
    refine g_inv1 k48_62 (hR.1) rfl (by decide) (Nat.le_of_ble_eq_true rfl) (c49 (o := 3) hR (by decide) (by decide) hd hb (fun hn im' hf he => ?_) (fun z => ?_))
    · refine g_goto k48_65 ?_
      exact g_retv k48_101 rfl (h0 (by simp only [rn_step]; simp [hn] <;> omega) im' hf he)
    · have e1 := hst (d - 1) (by omega)
      have e2 := hst (d - 2) (by omega)
      refine g_goto k48_65 ?_
      exact g_retv k48_101 rfl ((h1 (d - 1) (upd S (d - 2) (S (d - 2) - S (d - 1))) (c) (r) (0) (by simp [rn_step, z]) _ (fun b hb9 => by funext k; simp [en_u2, en_ur, show b ≠ 10 by omega, show b ≠ 11 by omega, show b ≠ 12 by omega, show b ≠ 13 by omega]) ⟨by rw [u2_eq, show d - 2 + 1 = d - 1 by omega], by omega, (fun i hi => by simp only [en_u2, en_ur, upd]; by_cases z : i = d - 2; simp [z, e1, e2]; simp [z]; exact hst i (by omega)), (fun k hk => by simp only [en_u2, en_ur]; simp; exact hcl k hk), by simp [en_u2, en_ur, hr], by omega⟩ (by simp [en_u2, en_ur, hf0]) (by simp [en_u2, en_ur, hl0]; rfl)))
  · refine g_tabI (tgt := 60) k48_1 (by decide) (by decide) rfl (by decide) ?_
    refine g_aload_n k48_60 rfl ?_
    refine g_iload_n k48_61 rfl ?_
    refine g_inv1 k48_62 (hR.1) rfl (by decide) (Nat.le_of_ble_eq_true rfl) (c49 (o := 4) hR (by decide) (by decide) hd hb (fun hn im' hf he => ?_) (fun z => ?_))
    · refine g_goto k48_65 ?_
      exact g_retv k48_101 rfl (h0 (by simp only [rn_step]; simp [hn] <;> omega) im' hf he)
    · have e1 := hst (d - 1) (by omega)
      have e2 := hst (d - 2) (by omega)
      refine g_goto k48_65 ?_
      exact g_retv k48_101 rfl ((h1 (d - 1) (upd S (d - 2) (if S (d - 2) < S (d - 1) then 1 else 0)) (c) (r) (0) (by simp [rn_step, z]) _ (fun b hb9 => by funext k; simp [en_u2, en_ur, show b ≠ 10 by omega, show b ≠ 11 by omega, show b ≠ 12 by omega, show b ≠ 13 by omega]) ⟨by rw [u2_eq, show d - 2 + 1 = d - 1 by omega], by omega, (fun i hi => by simp only [en_u2, en_ur, upd]; by_cases z : i = d - 2; simp [z, e1, e2]; simp [z]; exact hst i (by omega)), (fun k hk => by simp only [en_u2, en_ur]; simp; exact hcl k hk), by simp [en_u2, en_ur, hr], by omega⟩ (by simp [en_u2, en_ur, hf0]) (by simp [en_u2, en_ur, hl0]; rfl)))
  · refine g_tabI (tgt := 68) k48_1 (by decide) (by decide) rfl (by decide) ?_
    refine g_aload_n k48_68 rfl ?_
    refine g_inv0 k48_69 (hR.1) (by decide) (Nat.le_of_ble_eq_true rfl) (c50 hR hd hb (fun hn im' hf he => ?_) (fun z y => ?_))
    · refine g_goto k48_72 ?_
      exact g_retv k48_101 rfl (h0 (by simp only [rn_step]; simp <;> omega) im' hf he)
    · have e1 := hst (d - 1) (by omega)
      refine g_goto k48_72 ?_
      exact g_retv k48_101 rfl ((h1 (d + 1) (upd S d (S (d - 1))) (c) (r) (0) (by simp [rn_step, z, y]) _ (fun b hb9 => by funext k; simp [en_u2, en_ur, show b ≠ 10 by omega, show b ≠ 11 by omega, show b ≠ 12 by omega, show b ≠ 13 by omega]) ⟨by rw [u2_eq, show d - 1 + 1 + 1 = d + 1 by omega], by omega, (fun i hi => by simp only [en_u2, en_ur, upd]; have q1 : d - 1 + 1 = d := (by omega); by_cases z9 : i = d; simp [z9, e1, q1]; have q2 : i ≠ d - 1 + 1 := (by omega); simp [z9, q2]; by_cases z8 : i = d - 1; simp [z8, e1]; simp [z8]; exact hst i (by omega)), (fun k hk => by simp only [en_u2, en_ur]; simp; exact hcl k hk), by simp [en_u2, en_ur, hr], by omega⟩ (by simp [en_u2, en_ur, hf0]) (by simp [en_u2, en_ur, hl0]; rfl)))
  · refine g_tabI (tgt := 75) k48_1 (by decide) (by decide) rfl (by decide) ?_
    have hx := hx rfl
    refine g_aload_n k48_75 rfl ?_
    refine g_aload_n k48_76 rfl ?_
    refine g_inv0 k48_77 (hR.1) (by decide) (Nat.le_of_ble_eq_true rfl) (c55 hR hd hb (fun z => ?_) (fun z => ?_))
    · refine g_if_ne k48_80 (fun h => absurd (by decide) h) (fun _ => ?_)
      refine g_iload_n k48_83 rfl ?_
      refine g_goto k48_84 ?_
      refine g_puti k48_88 (by decide) (hR.1) (by decide) ?_
      refine g_goto k48_91 ?_
      exact g_retv k48_101 rfl (h0 (by simp [rn_step, z]) _ (fun b hb9 => by funext k; simp [en_u2, en_ur, show b ≠ 10 by omega, show b ≠ 11 by omega, show b ≠ 12 by omega, show b ≠ 13 by omega]) (by simp [en_u2]))
    · have e1 := hst (d - 1) (by omega)
      refine g_if_ne k48_80 (fun g => ?_) (fun g => ?_)
      · refine g_iconst (v := 0) k48_87 ic_0 ?_
        refine g_puti k48_88 (by decide) (hR.1) (by decide) ?_
        refine g_goto k48_91 ?_
        exact g_retv k48_101 rfl ((h1 (d - 1) (S) (c) (r) (0) (by simp [rn_step, show 1 ≤ d by omega, show ¬ S (d - 1) = 0 from e1 ▸ g]) _ (fun b hb9 => by funext k; simp [en_u2, en_ur, show b ≠ 10 by omega, show b ≠ 11 by omega, show b ≠ 12 by omega, show b ≠ 13 by omega]) ⟨by simp [en_u2, en_ur], by omega, (fun i hi => by simp only [en_u2, en_ur]; simp; exact hst i (by omega)), (fun k hk => by simp only [en_u2, en_ur]; simp; exact hcl k hk), by simp [en_u2, en_ur, hr], by omega⟩ (by simp [en_u2, en_ur, hf0]) (by simp [en_u2]; rfl)))
      · refine g_iload_n k48_83 rfl ?_
        refine g_goto k48_84 ?_
        refine g_puti k48_88 (by decide) (hR.1) (by decide) ?_
        refine g_goto k48_91 ?_
        exact g_retv k48_101 rfl ((h1 (d - 1) (S) (c) (r) (tn x) (by simp [rn_step, show 1 ≤ d by omega, show S (d - 1) = 0 from e1 ▸ g]) _ (fun b hb9 => by funext k; simp [en_u2, en_ur, show b ≠ 10 by omega, show b ≠ 11 by omega, show b ≠ 12 by omega, show b ≠ 13 by omega]) ⟨by simp [en_u2, en_ur], by omega, (fun i hi => by simp only [en_u2, en_ur]; simp; exact hst i (by omega)), (fun k hk => by simp only [en_u2, en_ur]; simp; exact hcl k hk), by simp [en_u2, en_ur, hr], by omega⟩ (by simp [en_u2, en_ur, hf0]) (by rw [u2_eq]; exact hx)))
  · refine g_tabO (tgt := 94) k48_1 (by decide) (by decide) ?_
    refine g_aload_n k48_94 rfl ?_
    refine g_iload_n k48_95 rfl ?_
    refine g_aload k48_96 rfl ?_
    refine g_inv2 k48_98 (hR.1) rfl rfl (by decide) (Nat.le_of_ble_eq_true rfl) (c51_7 hR hS hs hd hb hr hr2 (fun hn im' hf he => ?_) (fun z => ?_))
    · exact g_retv k48_101 rfl (h0 (by simp only [rn_step]; simp <;> omega) im' hf he)
    · have e1 := hst (d - 1) (by omega)
      rw [e1]
      exact g_retv k48_101 rfl ((h1 (d) (upd S (d - 1) (im (s + 2) (kb (S (d - 1))))) (upd c (kb (S (d - 1))) (im (s + 1) (kb (S (d - 1))))) (r) (0) (by simp [rn_step, show 1 ≤ d by omega]) _ (fun b hb9 => by funext k; simp [en_u2, en_ur, show b ≠ 10 by omega, show b ≠ 11 by omega, show b ≠ 12 by omega, show b ≠ 13 by omega]) ⟨by rw [u2_eq, show d - 1 + 1 = d by omega], by omega, (fun i hi => by simp only [en_u2, en_ur, upd]; by_cases z : i = d - 1; simp [z]; simp [z]; exact hst i (by omega)), (fun k hk => by simp only [en_u2, en_ur, upd]; by_cases z : k = kb (S (d - 1)); simp [z]; simp [z]; exact hcl k hk), by simp [en_u2, en_ur, hr], by omega⟩ (by simp [en_u2, en_ur, hf0]) (by simp [en_u2, en_ur, hl0]; rfl)))
  · refine g_tabO (tgt := 94) k48_1 (by decide) (by decide) ?_
    refine g_aload_n k48_94 rfl ?_
    refine g_iload_n k48_95 rfl ?_
    refine g_aload k48_96 rfl ?_
    refine g_inv2 k48_98 (hR.1) rfl rfl (by decide) (Nat.le_of_ble_eq_true rfl) (c51_8 hR hS hs hd hb hr hr2 (fun hn im' hf he => ?_) (fun z => ?_))
    · exact g_retv k48_101 rfl (h0 (by simp only [rn_step]; simp <;> omega) im' hf he)
    · have e1 := hst (d - 1) (by omega)
      have e2 := hst (d - 2) (by omega)
      rw [e1, e2]
      exact g_retv k48_101 rfl ((h1 (d - 2) (S) (upd (upd c (48 + kb (S (d - 2))) 1) (64 + kb (S (d - 2))) (S (d - 1))) (r) (0) (by simp [rn_step, z]) _ (fun b hb9 => by funext k; simp [en_u2, en_ur, show b ≠ 10 by omega, show b ≠ 11 by omega, show b ≠ 12 by omega, show b ≠ 13 by omega]) ⟨by simp [en_u2, en_ur], by omega, (fun i hi => by simp only [en_u2, en_ur]; simp; exact hst i (by omega)), (fun k hk => by simp only [en_u2, en_ur, upd]; by_cases z9 : k = 64 + kb (S (d - 2)); simp [z9]; simp [z9]; by_cases z8 : k = 48 + kb (S (d - 2)); simp [z8]; simp [z8]; exact hcl k hk), by simp [en_u2, en_ur, hr], by omega⟩ (by simp [en_u2, en_ur, hf0]) (by simp [en_u2, en_ur, hl0]; rfl)))
  · refine g_tabO (tgt := 94) k48_1 (by decide) (by decide) ?_
    refine g_aload_n k48_94 rfl ?_
    refine g_iload_n k48_95 rfl ?_
    refine g_aload k48_96 rfl ?_
    refine g_inv2 k48_98 (hR.1) rfl rfl (by decide) (Nat.le_of_ble_eq_true rfl) (c51_9 hR hS hs hd hb hr hr2 (fun hn im' hf he => ?_) (fun z => ?_))
    · exact g_retv k48_101 rfl (h0 (by simp only [rn_step]; simp <;> omega) im' hf he)
    · have e1 := hst (d - 1) (by omega)
      rw [e1]
      exact g_retv k48_101 rfl ((h1 (d - 1) (S) (upd (upd c (48 + kb (S (d - 1))) 2) (64 + kb (S (d - 1))) 0) (r) (0) (by simp [rn_step, show 1 ≤ d by omega]) _ (fun b hb9 => by funext k; simp [en_u2, en_ur, show b ≠ 10 by omega, show b ≠ 11 by omega, show b ≠ 12 by omega, show b ≠ 13 by omega]) ⟨by simp [en_u2, en_ur], by omega, (fun i hi => by simp only [en_u2, en_ur]; simp; exact hst i (by omega)), (fun k hk => by simp only [en_u2, en_ur, upd]; by_cases z9 : k = 64 + kb (S (d - 1)); simp [z9]; simp [z9]; by_cases z8 : k = 48 + kb (S (d - 1)); simp [z8]; simp [z8]; exact hcl k hk), by simp [en_u2, en_ur, hr], by omega⟩ (by simp [en_u2, en_ur, hf0]) (by simp [en_u2, en_ur, hl0]; rfl)))
  · refine g_tabO (tgt := 94) k48_1 (by decide) (by decide) ?_
    refine g_aload_n k48_94 rfl ?_
    refine g_iload_n k48_95 rfl ?_
    refine g_aload k48_96 rfl ?_
    refine g_inv2 k48_98 (hR.1) rfl rfl (by decide) (Nat.le_of_ble_eq_true rfl) (c51_10 hR hS hs hd hb hr hr2 (fun hn im' hf he => ?_) (fun z y => ?_))
    · exact g_retv k48_101 rfl (h0 (by simp only [rn_step]; simp <;> omega) im' hf he)
    · have e1 := hst (d - 1) (by omega)
      have e2 := hst (d - 2) (by omega)
      rw [e1, e2]
      exact g_retv k48_101 rfl ((h1 (d - 1) (upd S (d - 2) (sm (im (s + 2)) (kb (S (d - 2))) (kb (S (d - 1)) + 1 - kb (S (d - 2))))) (ad_c (im (s + 1)) c r (kb (S (d - 2))) (kb (S (d - 1)) + 1 - kb (S (d - 2)))) (r + 1) (0) (by simp [rn_step, z, y]) _ (fun b hb9 => by funext k; simp [en_u2, en_ur, show b ≠ 10 by omega, show b ≠ 11 by omega, show b ≠ 12 by omega, show b ≠ 13 by omega]) ⟨by rw [u2_eq, show d - 2 + 1 = d - 1 by omega], by omega, (fun i hi => by simp only [en_u2, en_ur, upd]; by_cases z : i = d - 2; simp [z]; simp [z]; exact hst i (by omega)), (fun k hk => by simp only [en_u2, en_ur]; simp; unfold ad_c; split; rfl; exact hcl k hk), by simp [en_u2, en_ur], by omega⟩ (by simp [en_u2, en_ur, hf0]) (by simp [en_u2, en_ur, hl0]; rfl)))

/-! a whole run: n instructions done; none: it failed *-/
def rn_run (op : Nat → Nat) (opd : Nat → Int32) (arg : Int32) (ver val : Nat → Int32) : Nat → Option rnT
  | 0 => some ((0, (fun _ => 0), rs_clr 80 (fun _ => 0), 0), 0)
  | n + 1 => match rn_run op opd arg ver val n with
    | none => none
    | some q => if 0 < q.2 then some (q.1, q.2 - 1) else rn_step (op n) (opd n) arg ver val q.1.1 q.1.2.1 q.1.2.2.1 q.1.2.2.2
/-- a machine that has failed stays so *-/
theorem rn_none {op : Nat → Nat} {opd : Nat → Int32} {arg : Int32} {ver val : Nat → Int32} : ∀ (k n : Nat), rn_run op opd arg ver val n = none → rn_run op opd arg ver val (n + k) = none := by
  intro k
  induction k with
  | zero => intro n h; exact h
  | succ k ih =>
    intro n h
    show (match rn_run op opd arg ver val (n + k) with
      | none => none
      | some q => if 0 < q.2 then some (q.1, q.2 - 1) else rn_step (op (n + k)) (opd (n + k)) arg ver val q.1.1 q.1.2.1 q.1.2.2.1 q.1.2.2.2) = none
    rw [ih n h]
theorem rn_l {o : Nat} {x arg : Int32} {ver val : Nat → Int32} {d : Nat} {S c : Nat → Int32} {r : Nat} {p : Nat × (Nat → Int32) × (Nat → Int32) × Nat} {l : Nat} (h : rn_step o x arg ver val d S c r = some (p, l)) (hx : o = 6 → tn x ≤ 12) : l ≤ 12 := by
  have key : ∀ {c1 : Prop} [Decidable c1] {A B : Option rnT}, (c1 → A = some (p, l) → l ≤ 12) → (B = some (p, l) → l ≤ 12) → (if c1 then A else B) = some (p, l) → l ≤ 12 := by
    intro c1 _ A B hA hB h
    split at h
    · exact hA (by assumption) h
    · exact hB h
  have nn : (none : Option rnT) = some (p, l) → l ≤ 12 := fun h => by cases h
  have zz : ∀ (q : Nat × (Nat → Int32) × (Nat → Int32) × Nat) (y : Nat), y ≤ 12 → (some (q, y) : Option rnT) = some (p, l) → l ≤ 12 := fun q y hy h => by
    injection h with h
    injection h with h1 h2
    omega
  unfold rn_step at h
  revert h
  refine key (fun _ => key (fun _ => zz _ _ (by decide)) nn) (key (fun _ => key (fun _ => zz _ _ (by decide)) nn) (key (fun _ => key (fun _ => zz _ _ (by decide)) nn) (key (fun _ => key (fun _ => zz _ _ (by decide)) nn) (key (fun _ => key (fun _ => zz _ _ (by decide)) nn) (key (fun _ => key (fun _ => zz _ _ (by decide)) nn) (key (fun h6 => key (fun _ => zz _ _ ?_) nn) (key (fun _ => key (fun _ => zz _ _ (by decide)) nn) (key (fun _ => key (fun _ => zz _ _ (by decide)) nn) (key (fun _ => key (fun _ => zz _ _ (by decide)) nn) (key (fun _ => zz _ _ (by decide)) nn))))))))))
  split
  · exact hx h6
  · omega
set_option maxRecDepth 20000 in
set_option maxHeartbeats 4000000 in
theorem l47 {LS : Nat} {rm : Nat → Nat → Option Nat} {im : Nat → Nat → Int32} {P : Option Value → (Nat → Nat → Int32) → Prop} {pa s len : Nat} {op : Nat → Nat} {opd : Nat → Int32} {arg : Int32} (hR : isRn LS rm 10) (hA : isPr LS rm pa) (hpa : 13 < pa) (hS : isWS LS rm s) (hs : 13 < s) (hl : im pa 2 = nI len) (hl2 : len ≤ 12) (hop : ∀ i, i < len → im (pa + 1) i = nI (op i) ∧ op i ≤ 10) (hod : ∀ i, i < len → im (pa + 2) i = opd i ∧ (op i = 6 → opd i = nI (tn (opd i)) ∧ tn (opd i) ≤ 12)) (h0 : rn_run op opd arg (im (s + 1)) (im (s + 2)) len = none → ∀ im', rnF im im' → P (some (.int 0)) im') (h1 : ∀ q, rn_run op opd arg (im (s + 1)) (im (s + 2)) len = some q → ∀ im', rnF im im' → rnC im' q.1.1 q.1.2.1 q.1.2.2.1 q.1.2.2.2 → P (some (.int 1)) im') : ∀ (n i : Nat), i + n = len → ∀ (im2 : Nat → Nat → Int32), rnF im im2 → ∀ (q : rnT), rn_run op opd arg (im (s + 1)) (im (s + 2)) i = some q → q.2 ≤ 12 → rnC im2 q.1.1 q.1.2.1 q.1.2.2.1 q.1.2.2.2 → im2 10 4 = 0 → im2 10 3 = nI q.2 → Gm LS rm 47 25 [.ref 10, .ref pa, .int arg, .ref s, .int (nI i)] [] im2 P := by
  intro n
  induction n with
  | zero =>
    intro i hi im2 hf q hq hq2 hC hf0 hl0
    have hie : len = i := by omega
    subst hie
    have el : im2 pa 2 = nI len := by rw [hf pa (by omega)]; exact hl
    refine g_iload k47_25 rfl ?_
    refine g_aload_n k47_27 rfl ?_
    refine g_getv (v := nI len) k47_28 (hA.1) (by decide) (el) ?_
    refine g_icmp_ge k47_31 (fun _ => ?_) (fun h => absurd (nI_le (Nat.le_refl _) (by omega)) h)
    refine g_aload_n k47_87 rfl ?_
    refine g_getv (v := 0) k47_88 (hR.1) (by decide) (hf0) ?_
    refine g_if_ne k47_91 (fun h => absurd (rfl) h) (fun _ => ?_)
    refine g_iconst (v := 1) k47_94 ic_1 ?_
    refine g_goto k47_95 ?_
    exact g_retz k47_99 rfl (by decide) (h1 q hq im2 hf hC)
  | succ n ih =>
    intro i hi im2 hf q hq hq2 hC hf0 hl0
    have hlt : i < len := by omega
    have el : im2 pa 2 = nI len := by rw [hf pa (by omega)]; exact hl
    refine g_iload k47_25 rfl ?_
    refine g_aload_n k47_27 rfl ?_
    refine g_getv (v := nI len) k47_28 (hA.1) (by decide) (el) ?_
    refine g_icmp_ge k47_31 (fun h => absurd h (nI_ge hlt (by omega))) (fun _ => ?_)
    refine g_aload_n k47_34 rfl ?_
    refine g_getv (v := 0) k47_35 (hR.1) (by decide) (hf0) ?_
    refine g_if_ne k47_38 (fun h => absurd (rfl) h) (fun _ => ?_)
    refine g_aload_n k47_41 rfl ?_
    refine g_getv (v := nI q.2) k47_42 (hR.1) (by decide) (hl0) ?_
    refine g_if_le k47_45 (fun g => ?_) (fun g => ?_)
    · have hz : ¬ 0 < q.2 := fun z => nI_nle z (by omega) g
      have hz0 : q.2 = 0 := by omega
      have er : rn_run op opd arg (im (s + 1)) (im (s + 2)) (i + 1) = rn_step (op i) (opd i) arg (im (s + 1)) (im (s + 2)) q.1.1 q.1.2.1 q.1.2.2.1 q.1.2.2.2 := by
        show (match rn_run op opd arg (im (s + 1)) (im (s + 2)) i with
          | none => none
          | some q => if 0 < q.2 then some (q.1, q.2 - 1) else rn_step (op i) (opd i) arg (im (s + 1)) (im (s + 2)) q.1.1 q.1.2.1 q.1.2.2.1 q.1.2.2.2) = _
        rw [hq]
        exact if_neg hz
      have o1 := hop i hlt
      have o2 := hod i hlt
      refine g_aload_n k47_61 rfl ?_
      refine g_aload_n k47_62 rfl ?_
      refine g_getr k47_63 (hA.1) (by decide) (hA.2.1) ?_
      refine g_iload k47_66 rfl ?_
      refine g_ialv (v := nI (op i)) k47_68 (hA.2.2.2.2.1) (by omega) (by decide) (by rw [hf (pa + 1) (by omega)]; exact o1.1) ?_
      refine g_aload_n k47_69 rfl ?_
      refine g_getr k47_70 (hA.1) (by decide) (hA.2.2.1) ?_
      refine g_iload k47_73 rfl ?_
      refine g_ialv (v := opd i) k47_75 (hA.2.2.2.2.2.1) (by omega) (by decide) (by rw [hf (pa + 2) (by omega)]; exact o2.1) ?_
      refine g_iload_n k47_76 rfl ?_
      refine g_aload_n k47_77 rfl ?_
      refine g_inv4 k47_78 (hR.1) rfl rfl rfl rfl (by decide) (Nat.le_of_ble_eq_true rfl) (c48 (o := op i) hR hS hs o1.2 (fun z => (o2.2 z).1) hC hf0 (by rw [hl0, hz0]; rfl) (fun d' S' c' r' l' e im3 hf3 hC3 hff hll => ?_) (fun e im3 hf3 hff => ?_))
      · rw [hf (s + 1) (by omega), hf (s + 2) (by omega), ← er] at e
        refine g_iincv (y := nI (i + 1)) k47_81 rfl (by decide) (inc_1 i) rfl ?_
        refine g_goto k47_84 ?_
        refine ih (i + 1) (by omega) im3 (fun b hb => (hf3 b hb).trans (hf b hb)) ((d', S', c', r'), l') e ?_ hC3 hff hll
        show l' ≤ 12
        rw [er] at e
        exact rn_l e (fun z => (o2.2 z).2)
      · rw [hf (s + 1) (by omega), hf (s + 2) (by omega), ← er] at e
        have en : rn_run op opd arg (im (s + 1)) (im (s + 2)) len = none := by rw [show len = (i + 1) + n by omega]; exact rn_none n (i + 1) e
        have el3 : im3 pa 2 = nI len := by rw [hf3 pa (by omega)]; exact el
        refine g_iincv (y := nI (i + 1)) k47_81 rfl (by decide) (inc_1 i) rfl ?_
        refine g_goto k47_84 ?_
        refine g_iload k47_25 rfl ?_
        refine g_aload_n k47_27 rfl ?_
        refine g_getv (v := nI len) k47_28 (hA.1) (by decide) (el3) ?_
        refine g_icmp_ge k47_31 (fun w => ?_) (fun w => ?_)
        · refine g_aload_n k47_87 rfl ?_
          refine g_getv (v := 1) k47_88 (hR.1) (by decide) (hff) ?_
          refine g_if_ne k47_91 (fun _ => ?_) (fun h => absurd h (by decide))
          refine g_iconst (v := 0) k47_98 ic_0 ?_
          exact g_retz k47_99 rfl (by decide) (h0 en im3 (fun b hb => (hf3 b hb).trans (hf b hb)))
        · refine g_aload_n k47_34 rfl ?_
          refine g_getv (v := 1) k47_35 (hR.1) (by decide) (hff) ?_
          refine g_if_ne k47_38 (fun _ => ?_) (fun h => absurd h (by decide))
          refine g_aload_n k47_87 rfl ?_
          refine g_getv (v := 1) k47_88 (hR.1) (by decide) (hff) ?_
          refine g_if_ne k47_91 (fun _ => ?_) (fun h => absurd h (by decide))
          refine g_iconst (v := 0) k47_98 ic_0 ?_
          exact g_retz k47_99 rfl (by decide) (h0 en im3 (fun b hb => (hf3 b hb).trans (hf b hb)))
    · have hz : 0 < q.2 := Nat.pos_of_ne_zero (fun z => g (by rw [z]; decide))
      have er : rn_run op opd arg (im (s + 1)) (im (s + 2)) (i + 1) = some (q.1, q.2 - 1) := by
        show (match rn_run op opd arg (im (s + 1)) (im (s + 2)) i with
          | none => none
          | some q => if 0 < q.2 then some (q.1, q.2 - 1) else rn_step (op i) (opd i) arg (im (s + 1)) (im (s + 2)) q.1.1 q.1.2.1 q.1.2.2.1 q.1.2.2.2) = _
        rw [hq]
        exact if_pos hz
      refine g_aload_n k47_48 rfl ?_
      refine g_dup k47_49 rfl ?_
      refine g_getv (v := nI q.2) k47_50 (hR.1) (by decide) (hl0) ?_
      refine g_iconst (v := 1) k47_53 ic_1 ?_
      refine g_isub k47_54 ?_
      refine g_top (y := nI (q.2 - 1)) (nI_m1 hz) ?_
      refine g_puti k47_55 (by decide) (hR.1) (by decide) ?_
      refine g_goto k47_58 ?_
      refine g_iincv (y := nI (i + 1)) k47_81 rfl (by decide) (inc_1 i) rfl ?_
      refine g_goto k47_84 ?_
      refine ih (i + 1) (by omega) _ (fun b hb => ?_) (q.1, q.2 - 1) er (by show q.2 - 1 ≤ 12; omega) ?_ (by rw [u2_ne (by omega)]; exact hf0) u2_eq
      · rw [en_u2_off (by omega)]
        exact hf b hb
      · obtain ⟨a1, a2, a3, a4, a5, a6⟩ := hC
        exact ⟨by rw [u2_ne (by omega)]; exact a1, a2, fun k hk => by rw [u2_ne (by omega)]; exact a3 k hk, fun k hk => by rw [u2_ne (by omega)]; exact a4 k hk, by rw [u2_ne (by omega)]; exact a5, a6⟩

set_option maxRecDepth 20000 in
set_option maxHeartbeats 4000000 in
theorem c47 {LS : Nat} {rm : Nat → Nat → Option Nat} {im : Nat → Nat → Int32} {P : Option Value → (Nat → Nat → Int32) → Prop} {pa s len : Nat} {op : Nat → Nat} {opd : Nat → Int32} {arg : Int32} (hR : isRn LS rm 10) (hA : isPr LS rm pa) (hpa : 13 < pa) (hS : isWS LS rm s) (hs : 13 < s) (hl : im pa 2 = nI len) (hl2 : len ≤ 12) (hop : ∀ i, i < len → im (pa + 1) i = nI (op i) ∧ op i ≤ 10) (hod : ∀ i, i < len → im (pa + 2) i = opd i ∧ (op i = 6 → opd i = nI (tn (opd i)) ∧ tn (opd i) ≤ 12)) (h0 : rn_run op opd arg (im (s + 1)) (im (s + 2)) len = none → ∀ im', rnF im im' → P (some (.int 0)) im') (h1 : ∀ q, rn_run op opd arg (im (s + 1)) (im (s + 2)) len = some q → ∀ im', rnF im im' → rnC im' q.1.1 q.1.2.1 q.1.2.2.1 q.1.2.2.2 → P (some (.int 1)) im') : Gm LS rm 47 0 (en_in 47 [.ref 10, .ref pa, .int arg, .ref s]) [] im P := by
  show Gm LS rm 47 0 [.ref (10), .ref (pa), .int (arg), .ref (s), .long 0] [] im P
  refine g_aload_n k47_0 rfl ?_
  refine g_iconst (v := 0) k47_1 ic_0 ?_
  refine g_puti k47_2 (by decide) (hR.1) (by decide) ?_
  refine g_aload_n k47_5 rfl ?_
  refine g_iconst (v := 0) k47_6 ic_0 ?_
  refine g_puti k47_7 (by decide) (hR.1) (by decide) ?_
  refine g_aload_n k47_10 rfl ?_
  refine g_iconst (v := 0) k47_11 ic_0 ?_
  refine g_putz k47_12 (by decide) (hR.1) (by decide) (by decide) ?_
  refine g_aload_n k47_15 rfl ?_
  refine g_getr k47_16 (hR.1) (by decide) (hR.2.2.1) ?_
  refine g_inv0 k47_19 (hR.2.2.2.2.1) (by decide) (Nat.le_of_ble_eq_true rfl) (c58 (a := 12) hR.2.2.2.2 ?_)
  refine g_iconst (v := 0) k47_22 ic_0 ?_
  refine g_istore k47_23 (by decide) rfl ?_
  refine l47 hR hA hpa hS hs hl hl2 hop hod h0 h1 len 0 (by omega) _ (fun b hb => ?_) _ rfl (Nat.zero_le _) ⟨?_, Nat.zero_le _, fun k hk => absurd hk (Nat.not_lt_zero k), fun k hk => ?_, ?_, Nat.zero_le _⟩ ?_ ?_
  · rw [en_u2_off (by omega), en_ur_off (by omega), en_u2_off (by omega), en_u2_off (by omega), en_u2_off (by omega)]
  · simp [en_u2, en_ur]; rfl
  · simp [en_u2, en_ur]
    unfold rs_clr
    rw [if_pos hk, if_pos hk]
  · simp [en_u2]; rfl
  · simp [en_u2, en_ur]
  · simp [en_u2, en_ur]; rfl

