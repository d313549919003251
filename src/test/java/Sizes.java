/** Types and exps of just so many PARTS; the exps need the equation of d. */
final class Sizes {
    /** Nine tokens. */
    static final String D = "d x = (x, x); ";

    private Sizes() {
    }

    /** A type without variables. */
    static String type(int parts) {
        if (parts <= 2) {
            return parts == 1 ? "Int" : "[Int]";
        }
        int many = Math.min(5, parts - 1);
        StringBuilder s = new StringBuilder();
        for (int i = 0; i < many; i++) {
            s.append(i > 0 ? ", " : "(").append(type((parts - 1 + i) / many));
        }
        return s.append(")").toString();
    }

    /** An exp of signs, lists and tuples; no types of more than 33 PARTS are unified for it. */
    static String exp(int parts) {
        if (parts == 2) {
            return "['c']";
        }
        int most = 1;
        int doubled = 0;
        while (2 * most + 1 <= parts && most < 31) {
            most = 2 * most + 1;
            doubled++;
        }
        if (most == parts) {
            return "d (".repeat(doubled) + "'c'" + ")".repeat(doubled);
        }
        int first = parts - 1 - most < 1 ? (most - 1) / 2 : most;
        return "(" + exp(first) + ", " + exp(parts - 1 - first) + ")";
    }

    /** How many PARTS a written type of Ints, Chars, Bools, lists and tuples has. */
    static int parts(String written) {
        return (int) written.chars().filter(c -> c == '(' || c == '[' || c >= 'A' && c <= 'Z').count();
    }
}
