/-! stub -/
section SB
theorem sb_1 : True := trivial
end SB
