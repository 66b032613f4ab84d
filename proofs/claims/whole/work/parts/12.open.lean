section SIM
variable {B n mm : Nat} {t v C FF FO g : Nat → Nat → Int32}
theorem sim_end (h : Rel B n mm t v C FF FO g) (hB : B < 2 ^ 30) : (fX2_end n t C FF FO).1 = (fX3_end g n).1 ∧ Rel (B + 1) n mm (fX2_end n t C FF FO).2.1 v (fX2_end n t C FF FO).2.2.1 (fX2_end n t C FF FO).2.2.2.1 (fX2_end n t C FF FO).2.2.2.2 (fX3_end g n).2 := sorry
end SIM


