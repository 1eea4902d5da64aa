theorem sp_sumOf {t c f k : Nat} {b : Bool} {L : zML} {T : Nat → Nat → Nat} (hE : zTE T c) (hf : zFo f) (hpt : ∀ (d : Nat) (M : zMI) (p : zP) (F : zFl), 4 * k + 3 ≤ d → zSM M T c b f (p, F) → zok T c k p → Sy yX8_part YX8_part d [.ref 9, .ref f] M L (zRf t) (zSP M L T c b f t (zpt T c b k p F))) (d : Nat) (M : zMI) (p : zP) (F : zFl) (hd : 4 * k + 5 ≤ d) (h : zSM M T c b f (p, F)) (hQ : zok T c k p) : Sy yX8_sum YX8_sum d [.ref 9, .ref f] M L (zRf t) (zSP M L T c b f t (zsu T c (zpt T c b k) p F)) :=
  sp_sumx (dd := d - 1) (pt := zpd T c (zpt T c b k)) (Q := zok T c k) (by omega) (by omega) hf
    (fun M p F h hQ => sp_product (dd := d - 2) (pt := zpt T c b k) (Q := zok T c k) (by omega) (by omega) hf (fun M p F h hQ => hpt (d - 2) M p F (by omega) h hQ) (fun p hp => zok_n hE hp) (fun p F hp => zkp_ok (zkp_pt hE k p F hp.2.1) hp) h hQ)
    (fun p hp => zok_n hE hp) (fun p F hp => zkp_ok (zkp_pd hE (zkp_pt hE k) p F hp.2.1) hp) h hQ
theorem sp_part {t c f : Nat} {b : Bool} {L : zML} {T : Nat → Nat → Nat} (hE : zTE T c) (hf : zFo f) : ∀ (k d : Nat) (M : zMI) (p : zP) (F : zFl), 4 * k + 3 ≤ d → zSM M T c b f (p, F) → zok T c k p → Sy yX8_part YX8_part d [.ref 9, .ref f] M L (zRf t) (zSP M L T c b f t (zpt T c b k p F)) := by
  intro k
  induction k with
  | zero => intro d M p F hd h hQ; exact absurd hQ.1 (by decide)
  | succ k ih =>
    intro d M p F hd h hQ
    exact sp_part1 (dd := d - 2) (k := k) (by omega) (by omega) hE hf (fun M p F h hQ => sp_sumOf hE hf ih (d - 2) M p F (by omega) h hQ) (fun M p F h hQ => ih (d - 2) M p F (by omega) h hQ) h hQ rfl
-- a sum read by itself: from at most six open; the fuel 8 is enough
def zsum (T : Nat → Nat → Nat) (c : Nat) (b : Bool) (p : zP) (F : zFl) : zPF := zsu T c (zpt T c b 8) p F
theorem sp_sum {t c f d : Nat} {b : Bool} {L : zML} {T : Nat → Nat → Nat} {M : zMI} {p : zP} {F : zFl} (hE : zTE T c) (hf : zFo f) (h : zSM M T c b f (p, F)) (hQ : zok T c 8 p) : Sy yX8_sum YX8_sum (d + 37) [.ref 9, .ref f] M L (zRf t) (zSP M L T c b f t (zsum T c b p F)) :=
  sp_sumOf hE hf (sp_part hE hf 8) (d + 37) M p F (by omega) h hQ
theorem zkp_sum {T : Nat → Nat → Nat} {c : Nat} {b : Bool} (hE : zTE T c) (p : zP) (F : zFl) (hp : p.1 < c) : zkp T c p (zsum T c b p F).1 := zkp_su hE (zkp_pt hE 8) p F hp

