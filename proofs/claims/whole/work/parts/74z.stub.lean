/-! stub -/
section SZ
theorem sz_1 : True := trivial
end SZ
