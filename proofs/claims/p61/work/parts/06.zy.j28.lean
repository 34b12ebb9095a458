section GJ28
end GJ28
