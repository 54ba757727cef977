section Zz
end Zz
