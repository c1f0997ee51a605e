/-! Math.abs of a double -/

