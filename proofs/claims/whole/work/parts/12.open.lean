section SIM
variable {B n mm : Nat} {t v C FF FO g : Nat → Nat → Int32}
theorem sim_end (h : Rel B n mm t v C FF FO g) (hB : B < 2 ^ 30) : (fX2_end n t C FF FO).1 = (fX3_end g n).1 ∧ Rel (B + 1) n mm (fX2_end n t C FF FO).2.1 v (fX2_end n t C FF FO).2.2.1 (fX2_end n t C FF FO).2.2.2.1 (fX2_end n t C FF FO).2.2.2.2 (fX3_end g n).2 := sorry
theorem sim_room (h : Rel B n mm t v C FF FO g) (x : Int32) : (fX2_room n t C x).1 = (fX3_room g n x).1 ∧ Rel B n mm (fX2_room n t C x).2.1 v (fX2_room n t C x).2.2 FF FO (fX3_room g n x).2 := sorry
theorem sim_least (h : Rel B n mm t v C FF FO g) : (fX2_least n mm v C).1 = (fX3_least g n mm).1 ∧ Rel B n mm t (fX2_least n mm v C).2 C FF FO (fX3_least g n mm).2 := sorry
theorem sim_leastAt (h : Rel B n mm t v C FF FO g) (x : Int32) : (fX2_leastAt n mm v C x).1 = (fX3_leastAt g n mm x).1 ∧ Rel B n mm t (fX2_leastAt n mm v C x).2 C FF FO (fX3_leastAt g n mm x).2 := sorry
theorem sim_plan (h : Rel B n mm t v C FF FO g) : (fX2_plan n mm v C).1 = (fX3_plan g n mm).1 ∧ Rel B n mm t (fX2_plan n mm v C).2 C FF FO (fX3_plan g n mm).2 := sorry
theorem sim_test (h : Rel B n mm t v C FF FO g) : (fX2_test n mm v C).1 = (fX3_test g n mm).1 ∧ Rel B n mm t (fX2_test n mm v C).2 C FF FO (fX3_test g n mm).2 := sorry
theorem sim_cause (h : Rel B n mm t v C FF FO g) (x y : Int32) : (fX2_cause t v x y).1 = (fX3_cause g x y).1 ∧ ∃ m2, Rel B n m2 t (fX2_cause t v x y).2 C FF FO (fX3_cause g x y).2 := sorry
end SIM


